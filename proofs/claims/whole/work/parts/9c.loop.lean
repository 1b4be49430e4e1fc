/-! the law: its loop -/
section LWD
variable {p : Program} {lc : Launch} {e : Env} {s : State} {m : MethodId} {below : List Frame} {meth : Method} {c : Code} {bs L : Nat} {xs : Nat → Int32} {D : va_G} {sa : Nat → Nat} {cy : Nat → ClassId} {ce sl pc : Nat} {l : List (Option Value)} {st : List Value} {h : am_H}
theorem and31 (x : Int32) : ∃ k, k < 32 ∧ x &&& (Int8.ofInt 31).toInt32 = nI k := by
  have e : x = nI x.toBitVec.toNat := by
    apply Int32.toBitVec_inj.mp
    simp [nI]
  refine ⟨x.toBitVec.toNat &&& 31, ?_, ?_⟩
  · have := Nat.and_le_right (n := x.toBitVec.toNat) (m := 31)
    omega
  · rw [← q_andE, ← e]
    rfl
theorem lw_len {L i : Nat} (hL : L ≤ 3072) (hi : i ≤ 4000) (h : ¬ Int32.ofNat L - (Int8.ofInt 6).toInt32 < nI i) : i + 6 ≤ L := by
  have e6 : (Int8.ofInt 6).toInt32 = nI 6 := rfl
  have eL : Int32.ofNat L = nI L := rfl
  rw [e6, eL] at h
  by_cases h6 : 6 ≤ L
  · rw [pk_sub h6] at h
    by_cases hc : i + 6 ≤ L
    · exact hc
    · exact absurd (nI_lt (by omega) (by omega)) h
  · exfalso
    apply h
    have hq : ∀ q, q < 6 → (nI q - nI 6).toInt < 0 := by decide
    have h1 := hq L (by omega)
    have h2 : (nI i).toInt = (i : Int) := nI_toInt (by omega)
    rw [Int32.lt_iff_toInt_lt, h2]
    omega
abbrev LMEM (p : Program) (lc : Launch) (e : Env) (s : State) (m : MethodId) (below : List Frame) (meth : Method) (c : Code) (bs L : Nat) (D : va_G) (sa : Nat → Nat) (cy : Nat → ClassId) : Prop := ∀ (ce sl i : Nat) (o5 o6 : Option Value) (h : am_H), INV h → i + 6 ≤ L → ce + 3 ≤ 601024 → sl + 400 ≤ 7293034 → (∀ h2 o5 o6, INV h2 → lw_K p lc e s m below meth c bs D sa cy (ce + 3) (sl + 400) 1149 (lwl i o5 o6) [] h2) → lw_K p lc e s m below meth c bs D sa cy ce sl 328 (lwl i o5 o6) [] h
set_option maxHeartbeats 4000000 in
theorem lw_go (hC : lw_X p s m meth c bs L xs D sa cy) (hmem : LMEM p lc e s m below meth c bs L D sa cy) : ∀ (n i : Nat) (h : am_H) (ce sl : Nat) (o5 o6 : Option Value), INV h → i ≤ 4000 → L < i + 6 * n + 6 → ce + 3 * n ≤ 601024 → sl + 400 * n ≤ 7293034 → lw_K p lc e s m below meth c bs D sa cy ce sl 23 (lwl i o5 o6) [] h
  | 0, i, h, ce, sl, o5, o6, hI, hi, hn, hB1, hB2 => by
    have hL := hC.2.2.2
    refine K_ld hC (v := .int (nI i)) (x := 4) dL_law_23 rfl rfl ?_
    refine K_ls hC (i := 0) dL_law_25 rfl ?_
    refine K_slen hC dL_law_26 ?_
    refine K_pu hC dL_law_27 rfl ?_
    refine K_pu hC dL_law_29 rfl ?_
    refine K_ic_gt hC 1155 dL_law_30 rfl (fun _ => ?_) (fun z => absurd (lw_len hL hi z) (by omega))
    refine K_pu hC dL_law_1155 rfl ?_
    exact K_ret hC dL_law_1156 (by omega) (by omega)
  | n + 1, i, h, ce, sl, o5, o6, hI, hi, hn, hB1, hB2 => by
    have hL := hC.2.2.2
    refine K_ld hC (v := .int (nI i)) (x := 4) dL_law_23 rfl rfl ?_
    refine K_ls hC (i := 0) dL_law_25 rfl ?_
    refine K_slen hC dL_law_26 ?_
    refine K_pu hC dL_law_27 rfl ?_
    refine K_pu hC dL_law_29 rfl ?_
    refine K_ic_gt hC 1155 dL_law_30 rfl (fun _ => ?_) (fun z => ?_)
    · refine K_pu hC dL_law_1155 rfl ?_
      exact K_ret hC dL_law_1156 (by omega) (by omega)
    · have hi6 := lw_len hL hi z
      clear z
      have b1 : ce + 3 ≤ 601024 := by omega
      have b2 : sl + 400 ≤ 7293034 := Nat.le_trans (Nat.add_le_add_left (Nat.le_mul_of_pos_right 400 (Nat.succ_pos n)) sl) hB2
      have b3 : ce ≤ ce + 3 := by omega
      have b4 : sl ≤ sl + 400 := Nat.le_add_right _ _
      refine K_ls hC (i := 0) dL_law_33 rfl ?_
      refine K_ld hC (v := .int (nI i)) (x := 4) dL_law_34 rfl rfl ?_
      refine K_sld hC dL_law_36 (vp_in_nI (by omega) (by omega)) ?_
      rw [nI_clamp (by omega)]
      refine K_pu hC dL_law_37 rfl ?_
      refine K_pu hC dL_law_39 rfl ?_
      have step : ∀ h2 o5 o6, INV h2 → lw_K p lc e s m below meth c bs D sa cy (ce + 3) (sl + 400) 1149 (lwl i o5 o6) [] h2 := fun h2 o5 o6 hI2 => by
        refine K_iinc hC (i := 4) (n := 6) (x := nI i) dL_law_1149 rfl (by decide) ?_
        refine K_goto hC 23 dL_law_1152 rfl ?_
        refine K_nl (pc' := 23) (l' := lwl (i + 6) o5 o6) rfl (by have e : nI i + Int32.ofInt 6 = nI (i + 6) := (show nI i + nI 6 = _ from nI_add ..); show am_s1 (lwl i o5 o6) 4 (.int (nI i + Int32.ofInt 6)) = _; rw [e]; rfl) ?_
        exact lw_go hC hmem n (i + 6) h2 _ _ o5 o6 hI2 (by omega) (by omega) (by omega) (by omega)
      obtain ⟨k, hk, ek⟩ := and31 (xs i)
      rw [ek]
      have hkk : k = 0 ∨ k = 1 ∨ k = 2 ∨ k = 3 ∨ k = 4 ∨ k = 5 ∨ k = 6 ∨ k = 7 ∨ k = 8 ∨ k = 9 ∨ k = 10 ∨ k = 11 ∨ k = 12 ∨ k = 13 ∨ k = 14 ∨ k = 15 ∨ k = 16 ∨ k = 17 ∨ k = 18 ∨ k = 19 ∨ k = 20 ∨ k = 21 ∨ k = 22 ∨ k = 23 ∨ k = 24 ∨ k = 25 ∨ k = 26 ∨ k = 27 ∨ k = 28 ∨ k = 29 ∨ k = 30 ∨ k = 31 := by omega
      rcases hkk with rfl | rfl | rfl | rfl | rfl | rfl | rfl | rfl | rfl | rfl | rfl | rfl | rfl | rfl | rfl | rfl | rfl | rfl | rfl | rfl | rfl | rfl | rfl | rfl | rfl | rfl | rfl | rfl | rfl | rfl | rfl | rfl
      · exact K_tIn hC 180 dL_law_40 (by decide) (by decide) rfl rfl (L_feed hC hI hi6 b1 b2 (fun h2 hI2 => step h2 o5 o6 hI2))
      · exact K_tIn hC 253 dL_law_40 (by decide) (by decide) rfl rfl (L_end hC hI hi6 b1 b2 (fun h2 hI2 => step h2 o5 o6 hI2))
      · exact K_tIn hC 278 dL_law_40 (by decide) (by decide) rfl rfl (L_fault hC hI hi6 b1 b2 (fun h2 hI2 => step h2 o5 o6 hI2))
      · exact K_tIn hC 303 dL_law_40 (by decide) (by decide) rfl rfl (L_text hC hI hi6 b1 b2 (fun h2 hI2 => step h2 o5 o6 hI2))
      · exact K_tIn hC 328 dL_law_40 (by decide) (by decide) rfl rfl (hmem _ _ _ _ _ _ hI hi6 b1 b2 step)
      · exact K_tIn hC 396 dL_law_40 (by decide) (by decide) rfl rfl (L_seat hC hI hi6 b1 b2 (fun h2 hI2 => step h2 o5 o6 hI2))
      · exact K_tIn hC 421 dL_law_40 (by decide) (by decide) rfl rfl (L_manners hC hI hi6 b1 b2 (fun h2 hI2 => step h2 o5 o6 hI2))
      · exact K_tIn hC 446 dL_law_40 (by decide) (by decide) rfl rfl (L_set hC hI hi6 b1 b2 (fun h2 hI2 => step h2 o5 o6 hI2))
      · exact K_tIn hC 495 dL_law_40 (by decide) (by decide) rfl rfl (L_change hC hI hi6 b1 b2 (fun h2 hI2 => step h2 o5 o6 hI2))
      · exact K_tIn hC 532 dL_law_40 (by decide) (by decide) rfl rfl (L_sit hC hI hi6 b1 b2 (fun h2 hI2 => step h2 o5 o6 hI2))
      · exact K_tIn hC 557 dL_law_40 (by decide) (by decide) rfl rfl (L_round hC hI hi6 b1 b2 (fun h2 hI2 => step h2 o5 o6 hI2))
      · exact K_tIn hC 607 dL_law_40 (by decide) (by decide) rfl rfl (L_tally hC hI hi6 b1 b2 (fun h2 hI2 => step h2 o5 o6 hI2))
      · exact K_tIn hC 632 dL_law_40 (by decide) (by decide) rfl rfl (L_odds hC hI hi6 b1 b2 (fun h2 hI2 => step h2 o5 o6 hI2))
      · exact K_tIn hC 658 dL_law_40 (by decide) (by decide) rfl rfl (L_passed hC hI hi6 b1 b2 (fun h2 hI2 => step h2 o5 o6 hI2))
      · exact K_tIn hC 672 dL_law_40 (by decide) (by decide) rfl rfl (L_turner hC hI hi6 b1 b2 (fun h2 hI2 => step h2 o5 o6 hI2))
      · exact K_tIn hC 685 dL_law_40 (by decide) (by decide) rfl rfl (L_bribe hC hI hi6 b1 b2 (fun h2 hI2 => step h2 o5 o6 hI2))
      · exact K_tIn hC 710 dL_law_40 (by decide) (by decide) rfl rfl (L_yawn hC hI hi6 b1 b2 (fun h2 hI2 => step h2 o5 o6 hI2))
      · exact K_tIn hC 747 dL_law_40 (by decide) (by decide) rfl rfl (L_yawns hC hI hi6 b1 b2 (fun h2 hI2 => step h2 o5 o6 hI2))
      · exact K_tIn hC 784 dL_law_40 (by decide) (by decide) rfl rfl (L_ill hC hI hi6 b1 b2 (fun h2 hI2 => step h2 o5 o6 hI2))
      · exact K_tIn hC 797 dL_law_40 (by decide) (by decide) rfl rfl (L_best hC hI hi6 b1 b2 (fun h2 hI2 => step h2 o5 o6 hI2))
      · exact K_tIn hC 834 dL_law_40 (by decide) (by decide) rfl rfl (L_changes hC hI hi6 b1 b2 (fun h2 hI2 => step h2 o5 o6 hI2))
      · exact K_tIn hC 859 dL_law_40 (by decide) (by decide) rfl rfl (L_know hC hI hi6 b1 b2 (fun h2 hI2 => step h2 o5 o6 hI2))
      · exact K_tIn hC 912 dL_law_40 (by decide) (by decide) rfl rfl (L_fits hC hI hi6 b1 b2 (fun h2 hI2 => step h2 o5 o6 hI2))
      · exact K_tIn hC 937 dL_law_40 (by decide) (by decide) rfl rfl (L_sure hC hI hi6 b1 b2 (fun h2 hI2 => step h2 o5 o6 hI2))
      · exact K_tIn hC 978 dL_law_40 (by decide) (by decide) rfl rfl (L_seed hC hI hi6 b1 b2 (fun h2 hI2 => step h2 o5 o6 hI2))
      · exact K_tIn hC 1035 dL_law_40 (by decide) (by decide) rfl rfl (L_sitting hC hI hi6 b1 b2 (fun h2 hI2 => step h2 o5 o6 hI2))
      · exact K_tIn hC 1048 dL_law_40 (by decide) (by decide) rfl rfl (L_sat hC hI hi6 b1 b2 (fun h2 hI2 => step h2 o5 o6 hI2))
      · exact K_tIn hC 1085 dL_law_40 (by decide) (by decide) rfl rfl (L_undo hC hI hi6 b1 b2 (fun h2 hI2 => step h2 o5 o6 hI2))
      · exact K_tIn hC 1098 dL_law_40 (by decide) (by decide) rfl rfl (L_image hC hI hi6 b1 b2 (fun h2 hI2 => step h2 o5 o6 hI2))
      · exact K_tIn hC 1111 dL_law_40 (by decide) (by decide) rfl rfl (L_back hC hI hi6 b1 b2 (fun h2 hI2 => step h2 o5 o6 hI2))
      · exact K_tIn hC 1124 dL_law_40 (by decide) (by decide) rfl rfl (L_count hC hI hi6 b1 b2 (fun h2 hI2 => step h2 o5 o6 hI2))
      · exact K_tOut hC 1149 dL_law_40 (by decide) rfl (K_wd b3 b4 (step h o5 o6 hI))
end LWD
