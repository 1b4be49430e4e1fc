/-! heaps in lists, and the constructors over them -/
def lkP : List (Nat × Nat × Nat) → Nat → Nat → Option Nat
  | [], _, _ => none
  | q :: r, x, y => bif (Nat.beq x q.1 && Nat.beq y q.2.1) then some q.2.2 else lkP r x y
def lkI : List (Nat × Nat × Int32) → Nat → Nat → Int32
  | [], _, _ => 0
  | q :: r, x, y => bif (Nat.beq x q.1 && Nat.beq y q.2.1) then q.2.2 else lkI r x y
def HL (sk : List (Nat × Nat)) (ii : List (Nat × Nat × Int32)) (pp : List (Nat × Nat × Nat)) (u : Nat) : am_H := (fun r => sk[r]?, lkI ii, fun _ _ => 0, lkP pp, sk.length, u)
def FR (t : Nat) (ii : List (Nat × Nat × Int32)) (pp : List (Nat × Nat × Nat)) : Prop := (∀ q ∈ ii, q.1 < t) ∧ ∀ q ∈ pp, q.1 < t
theorem lkP_fr {t x : Nat} {pp : List (Nat × Nat × Nat)} (h : ∀ q ∈ pp, q.1 < t) (hx : t ≤ x) (y : Nat) : lkP pp x y = none := by
  induction pp with
  | nil => rfl
  | cons q r ih =>
    have h1 := h q List.mem_cons_self
    have : Nat.beq x q.1 = false := am_bne (by omega)
    simp only [lkP, this, Bool.false_and, cond_false]
    exact ih (fun q hq => h q (List.mem_cons_of_mem _ hq))
theorem lkI_fr {t x : Nat} {ii : List (Nat × Nat × Int32)} (h : ∀ q ∈ ii, q.1 < t) (hx : t ≤ x) (y : Nat) : lkI ii x y = 0 := by
  induction ii with
  | nil => rfl
  | cons q r ih =>
    have h1 := h q List.mem_cons_self
    have : Nat.beq x q.1 = false := am_bne (by omega)
    simp only [lkI, this, Bool.false_and, cond_false]
    exact ih (fun q hq => h q (List.mem_cons_of_mem _ hq))
theorem FR.up {t t' : Nat} {ii : List (Nat × Nat × Int32)} {pp : List (Nat × Nat × Nat)} (h : FR t ii pp) (ht : t ≤ t') : FR t' ii pp := ⟨fun q hq => Nat.lt_of_lt_of_le (h.1 q hq) ht, fun q hq => Nat.lt_of_lt_of_le (h.2 q hq) ht⟩
theorem FR.p {t r j v : Nat} {ii : List (Nat × Nat × Int32)} {pp : List (Nat × Nat × Nat)} (h : FR t ii pp) (hr : r < t) : FR t ii ((r, j, v) :: pp) := ⟨h.1, fun q hq => by
  rcases List.mem_cons.mp hq with rfl | z
  · exact hr
  · exact h.2 q z⟩
theorem FR.i {t r j : Nat} {v : Int32} {ii : List (Nat × Nat × Int32)} {pp : List (Nat × Nat × Nat)} (h : FR t ii pp) (hr : r < t) : FR t ((r, j, v) :: ii) pp := ⟨fun q hq => by
  rcases List.mem_cons.mp hq with rfl | z
  · exact hr
  · exact h.1 q z, h.2⟩
theorem HL_nw {sk : List (Nat × Nat)} {ii : List (Nat × Nat × Int32)} {pp : List (Nat × Nat × Nat)} {u n : Nat} {sh : Nat × Nat} (hF : FR sk.length ii pp) : am_nw (HL sk ii pp u) sh n = HL (sk ++ [sh]) ii pp (u + n) := by
  unfold am_nw HL
  refine Prod.ext (funext fun r => ?_) (Prod.ext (funext fun r => funext fun j => ?_) (Prod.ext (funext fun r => funext fun j => ?_) (Prod.ext (funext fun r => funext fun j => ?_) (Prod.ext ?_ rfl))))
  · show (bif Nat.beq r sk.length then some sh else sk[r]?) = (sk ++ [sh])[r]?
    by_cases h : r = sk.length
    · subst h; rw [am_beq]; simp
    · rw [am_bne h]
      by_cases h2 : r < sk.length
      · rw [List.getElem?_append_left h2]; rfl
      · rw [List.getElem?_append_right (by omega)]
        rw [List.getElem?_eq_none (by omega), List.getElem?_eq_none (by simp; omega)]
        rfl
  · show (bif Nat.beq r sk.length then 0 else lkI ii r j) = lkI ii r j
    by_cases h : r = sk.length
    · subst h; rw [am_beq, lkI_fr hF.1 (Nat.le_refl _)]; rfl
    · rw [am_bne h]; rfl
  · show (bif Nat.beq r sk.length then (0 : Int64) else 0) = 0
    cases Nat.beq r sk.length <;> rfl
  · show (bif Nat.beq r sk.length then none else lkP pp r j) = lkP pp r j
    by_cases h : r = sk.length
    · subst h; rw [am_beq, lkP_fr hF.2 (Nat.le_refl _)]; rfl
    · rw [am_bne h]; rfl
  · show sk.length + 1 = (sk ++ [sh]).length
    simp
theorem HL_wP {sk : List (Nat × Nat)} {ii : List (Nat × Nat × Int32)} {pp : List (Nat × Nat × Nat)} {u r j v : Nat} : am_wP (HL sk ii pp u) r j (some v) = HL sk ii ((r, j, v) :: pp) u := by
  unfold am_wP HL
  refine Prod.ext rfl (Prod.ext rfl (Prod.ext rfl (Prod.ext (funext fun x => funext fun y => ?_) rfl)))
  show (bif Nat.beq x r then (bif Nat.beq y j then some v else lkP pp x y) else lkP pp x y) = (bif (Nat.beq x r && Nat.beq y j) then some v else lkP pp x y)
  cases Nat.beq x r <;> cases Nat.beq y j <;> rfl
theorem HL_wPn {sk : List (Nat × Nat)} {ii : List (Nat × Nat × Int32)} {pp : List (Nat × Nat × Nat)} {u r j : Nat} (h : lkP pp r j = none) : am_wP (HL sk ii pp u) r j none = HL sk ii pp u := by
  unfold am_wP HL
  refine Prod.ext rfl (Prod.ext rfl (Prod.ext rfl (Prod.ext (funext fun x => funext fun y => ?_) rfl)))
  show (bif Nat.beq x r then (bif Nat.beq y j then none else lkP pp x y) else lkP pp x y) = lkP pp x y
  by_cases h1 : x = r
  · by_cases h2 : y = j
    · subst h1; subst h2; rw [am_beq, am_beq, h]; rfl
    · rw [am_bne h2]; cases Nat.beq x r <;> rfl
  · rw [am_bne h1]; rfl
theorem HL_w0 {sk : List (Nat × Nat)} {ii : List (Nat × Nat × Int32)} {pp : List (Nat × Nat × Nat)} {u r j : Nat} (h : lkI ii r j = 0) : am_wI (HL sk ii pp u) r j (nI 0) = HL sk ii pp u := by
  unfold am_wI HL
  refine Prod.ext rfl (Prod.ext (funext fun x => funext fun y => ?_) rfl)
  show (bif Nat.beq x r then (bif Nat.beq y j then nI 0 else lkI ii x y) else lkI ii x y) = lkI ii x y
  by_cases h1 : x = r
  · by_cases h2 : y = j
    · subst h1; subst h2; rw [am_beq, am_beq, h]; rfl
    · rw [am_bne h2]; cases Nat.beq x r <;> rfl
  · rw [am_bne h1]; rfl
theorem HL_wI {sk : List (Nat × Nat)} {ii : List (Nat × Nat × Int32)} {pp : List (Nat × Nat × Nat)} {u r j : Nat} {v : Int32} : am_wI (HL sk ii pp u) r j v = HL sk ((r, j, v) :: ii) pp u := by
  unfold am_wI HL
  refine Prod.ext rfl (Prod.ext (funext fun x => funext fun y => ?_) rfl)
  show (bif Nat.beq x r then (bif Nat.beq y j then v else lkI ii x y) else lkI ii x y) = (bif (Nat.beq x r && Nat.beq y j) then v else lkI ii x y)
  cases Nat.beq x r <;> cases Nat.beq y j <;> rfl
theorem HL_wL {sk : List (Nat × Nat)} {ii : List (Nat × Nat × Int32)} {pp : List (Nat × Nat × Nat)} {u r j : Nat} : am_wL (HL sk ii pp u) r j 0 = HL sk ii pp u := by
  unfold am_wL HL
  refine Prod.ext rfl (Prod.ext rfl (Prod.ext (funext fun x => funext fun y => ?_) rfl))
  show (bif Nat.beq x r then (bif Nat.beq y j then (0 : Int64) else 0) else 0) = 0
  cases Nat.beq x r <;> cases Nat.beq y j <;> rfl
theorem sk_o {sk : List (Nat × Nat)} {r : Nat} {q x : Nat × Nat} (h : sk[r]? = some q) : (sk ++ [x])[r]? = some q := by rw [List.getElem?_append_left (List.getElem?_eq_some_iff.mp h).1]; exact h
theorem sk_l {sk : List (Nat × Nat)} {r : Nat} {q : Nat × Nat} (h : sk[r]? = some q) : r < sk.length := (List.getElem?_eq_some_iff.mp h).1
theorem sk_n {sk : List (Nat × Nat)} {x : Nat × Nat} : (sk ++ [x])[sk.length]? = some x := by simp
theorem sk_1 {sk : List (Nat × Nat)} {x : Nat × Nat} : (sk ++ [x]).length = sk.length + 1 := by simp
theorem sk_le {sk : List (Nat × Nat)} {x : Nat × Nat} : sk.length ≤ (sk ++ [x]).length := by rw [sk_1]; omega
theorem lkP_o {pp : List (Nat × Nat × Nat)} {r j v x y : Nat} (h : x ≠ r) : lkP ((r, j, v) :: pp) x y = lkP pp x y := by
  simp only [lkP, am_bne h, Bool.false_and, cond_false]
theorem lkP_h {pp : List (Nat × Nat × Nat)} {r j v : Nat} : lkP ((r, j, v) :: pp) r j = some v := by simp [lkP]
section HLR
variable {d : Nat} {M : am_M} {pc : Nat} {l : List (Option Value)} {st : List Value} {o : am_O} {sk : List (Nat × Nat)} {ii : List (Nat × Nat × Int32)} {pp : List (Nat × Nat × Nat)} {u : Nat}
theorem h_new {idx k0 : Nat} (f : Nat) {Cn : String} {T : u_T} (hdec : decode M.2.1 pc = .ok (.new idx, 3)) (hok : am_ok k0 Cn T) (hl1 : Cond.classLink M.1.cls idx Cn ∈ lw_tbl) (hl2 : Cond.instantiable Cn (am_nf k0) ∈ lw_tbl) (hl3 : Cond.initialized Cn ∈ lw_tbl) (hf : am_nf k0 = f) (hF : FR sk.length ii pp) (k : am_Sem d M (pc + 3) l (.ref sk.length :: st) (HL (sk ++ [(k0, 0)]) ii pp (u + f)) o) : am_Sem d M pc l st (HL sk ii pp u) o := am_x_new hdec hok hl1 hl2 hl3 (by rw [HL_nw hF, hf]; exact k)
theorem h_newI {x : Int32} (N : Nat) (hdec : decode M.2.1 pc = .ok (.newarray .int, 2)) (hn : ¬ x < 0) (hN : x.toNatClampNeg = N) (hN2 : N ≤ 60000000) (hF : FR sk.length ii pp) (k : am_Sem d M (pc + 2) l (.ref sk.length :: st) (HL (sk ++ [(100, N)]) ii pp (u + N)) o) : am_Sem d M pc l (.int x :: st) (HL sk ii pp u) o := am_x_newI hdec hn hN hN2 wd_int (by rw [HL_nw hF]; exact k)
theorem h_newL {x : Int32} (N : Nat) (hdec : decode M.2.1 pc = .ok (.newarray .long, 2)) (hn : ¬ x < 0) (hN : x.toNatClampNeg = N) (hN2 : N ≤ 60000000) (hF : FR sk.length ii pp) (k : am_Sem d M (pc + 2) l (.ref sk.length :: st) (HL (sk ++ [(101, N)]) ii pp (u + N)) o) : am_Sem d M pc l (.int x :: st) (HL sk ii pp u) o := am_x_newL hdec hn hN hN2 wd_long (by rw [HL_nw hF]; exact k)
theorem h_newZ {x : Int32} (N : Nat) (hdec : decode M.2.1 pc = .ok (.newarray .boolean, 2)) (hn : ¬ x < 0) (hN : x.toNatClampNeg = N) (hN2 : N ≤ 60000000) (hF : FR sk.length ii pp) (k : am_Sem d M (pc + 2) l (.ref sk.length :: st) (HL (sk ++ [(102, N)]) ii pp (u + N)) o) : am_Sem d M pc l (.int x :: st) (HL sk ii pp u) o := am_x_newZ hdec hn hN hN2 wd_boolean (by rw [HL_nw hF]; exact k)
theorem h_newQ {x : Int32} {idx : Nat} (N : Nat) (hdec : decode M.2.1 pc = .ok (.anewarray idx, 3)) (hn : ¬ x < 0) (hN : x.toNatClampNeg = N) (hN2 : N ≤ 60000000) (hw : Cond.classLink M.1.cls idx "MouthHouse$Manners" ∈ lw_tbl) (hF : FR sk.length ii pp) (k : am_Sem d M (pc + 3) l (.ref sk.length :: st) (HL (sk ++ [(103, N)]) ii pp (u + N)) o) : am_Sem d M pc l (.int x :: st) (HL sk ii pp u) o := am_x_newQ hdec hn hN hN2 hw (by rw [HL_nw hF]; exact k)
theorem h_getR {idx k0 j r n x : Nat} (hdec : decode M.2.1 pc = .ok (.getfield idx, 3)) (hf : am_fl M.1.cls idx k0 j) (hs : sk[r]? = some (k0, n)) (ht : (match am_ty k0 j with | .object _ => true | .array _ => true | _ => false) = true) (hv : lkP pp r j = some x) (k : am_Sem d M (pc + 3) l (.ref x :: st) (HL sk ii pp u) o) : am_Sem d M pc l (.ref r :: st) (HL sk ii pp u) o := am_x_get (h := HL sk ii pp u) (v := .ref x) hdec hf hs (by
  unfold am_fa
  have hv2 : am_p (HL sk ii pp u) r j = some x := hv
  rw [hv2]
  revert ht
  cases am_ty k0 j <;> intro ht <;> first | rfl | cases ht) k
theorem h_putR {idx k0 j r n v : Nat} (hdec : decode M.2.1 pc = .ok (.putfield idx, 3)) (hf : am_fw M.1 idx k0 j) (hs : sk[r]? = some (k0, n)) (ht : (∃ C, am_ty k0 j = .object C) ∨ ∃ t, am_ty k0 j = .array t) (k : am_Sem d M (pc + 3) l st (HL sk ii ((r, j, v) :: pp) u) o) : am_Sem d M pc l (.ref v :: .ref r :: st) (HL sk ii pp u) o := am_x_putR (v := some v) (h := HL sk ii pp u) hdec hf hs ht (by rw [HL_wP]; exact k)
theorem h_putN {idx k0 j r n : Nat} (hdec : decode M.2.1 pc = .ok (.putfield idx, 3)) (hf : am_fw M.1 idx k0 j) (hs : sk[r]? = some (k0, n)) (ht : (∃ C, am_ty k0 j = .object C) ∨ ∃ t, am_ty k0 j = .array t) (hz : lkP pp r j = none) (k : am_Sem d M (pc + 3) l st (HL sk ii pp u) o) : am_Sem d M pc l (.null :: .ref r :: st) (HL sk ii pp u) o := am_x_putR (v := none) (h := HL sk ii pp u) hdec hf hs ht (by rw [HL_wPn hz]; exact k)
theorem h_put0 {idx k0 j r n : Nat} (hdec : decode M.2.1 pc = .ok (.putfield idx, 3)) (hf : am_fw M.1 idx k0 j) (hs : sk[r]? = some (k0, n)) (ht : am_ty k0 j = .int ∨ am_ty k0 j = .boolean) (hz : lkI ii r j = 0) (k : am_Sem d M (pc + 3) l st (HL sk ii pp u) o) : am_Sem d M pc l (.int (nI 0) :: .ref r :: st) (HL sk ii pp u) o := am_x_putI (h := HL sk ii pp u) hdec hf hs (ht.elim Or.inl (fun z => Or.inr ⟨z, Or.inl rfl⟩)) (by rw [HL_w0 hz]; exact k)
theorem h_putI {idx k0 j r n : Nat} {v : Int32} (hdec : decode M.2.1 pc = .ok (.putfield idx, 3)) (hf : am_fw M.1 idx k0 j) (hs : sk[r]? = some (k0, n)) (ht : am_ty k0 j = .int) (k : am_Sem d M (pc + 3) l st (HL sk ((r, j, v) :: ii) pp u) o) : am_Sem d M pc l (.int v :: .ref r :: st) (HL sk ii pp u) o := am_x_putI (h := HL sk ii pp u) hdec hf hs (Or.inl ht) (by rw [HL_wI]; exact k)
theorem h_putL {idx k0 j r n : Nat} (hdec : decode M.2.1 pc = .ok (.putfield idx, 3)) (hf : am_fw M.1 idx k0 j) (hs : sk[r]? = some (k0, n)) (ht : am_ty k0 j = .long) (k : am_Sem d M (pc + 3) l st (HL sk ii pp u) o) : am_Sem d M pc l (.long 0 :: .ref r :: st) (HL sk ii pp u) o := am_x_putL (h := HL sk ii pp u) hdec hf hs ht (by rw [HL_wL]; exact k)
end HLR
set_option maxHeartbeats 2000000 in
theorem c_i9 {sk : List (Nat × Nat)} {ii : List (Nat × Nat × Int32)} {pp : List (Nat × Nat × Nat)} {u r  : Nat} (hs : sk[r]? = some (9, 0)) (hF : FR sk.length ii pp) (hz : ∀ j, lkI ii r j = 0) : am_C 1 m_X9_init [.ref r] (HL sk ii pp u) (none, (HL (sk ++ [(100, 160)]) ii ((r, 0, sk.length) :: pp) (u + 160))) := by
  have hF0 := hF
  refine q_aln dX9_init_0 rfl ?_
  refine am_x_oi dX9_init_1 (by decide) (Nat.le_of_ble_eq_true rfl) lo_X9_3 wd_oi wd_oc ?_
  refine q_aln dX9_init_4 rfl ?_
  refine q_sp (v := nI 160) dX9_init_5 rfl ?_
  refine h_newI 160 dX9_init_8 (by decide) (by decide) (by decide) hF0 ?_
  have hG0 := hF0
  have hF1 := hF0.up (t' := (sk ++ [(100, 160)]).length) sk_le
  refine h_putR dX9_init_10 (fw_X9_11 rfl rfl) (sk_o hs) (Or.inr ⟨_, rfl⟩) ?_
  have hF2 := hF1.p (j := 0) (v := sk.length) (sk_l (sk_o hs))
  refine q_aln dX9_init_13 rfl ?_
  refine q_ic (v := nI 0) dX9_init_14 rfl ?_
  refine h_put0 dX9_init_15 (fw_X9_15 rfl) (sk_o hs) (Or.inl rfl) (by exact hz 1) ?_
  refine q_aln dX9_init_18 rfl ?_
  refine q_ic (v := nI 0) dX9_init_19 rfl ?_
  refine h_put0 dX9_init_20 (fw_X9_19 rfl) (sk_o hs) (Or.inl rfl) (by exact hz 2) ?_
  exact q_vr dX9_init_23 rfl rfl
set_option maxHeartbeats 2000000 in
theorem c_i5 {sk : List (Nat × Nat)} {ii : List (Nat × Nat × Int32)} {pp : List (Nat × Nat × Nat)} {u r  : Nat} (hs : sk[r]? = some (5, 0)) (hF : FR sk.length ii pp) (hz : ∀ j, lkI ii r j = 0) : am_C 1 m_X5_init [.ref r] (HL sk ii pp u) (none, (HL (sk ++ [(100, 49)]) ii ((r, 2, sk.length) :: pp) (u + 49))) := by
  have hF0 := hF
  refine q_aln dX5_init_0 rfl ?_
  refine am_x_oi dX5_init_1 (by decide) (Nat.le_of_ble_eq_true rfl) lo_X5_3 wd_oi wd_oc ?_
  refine q_aln dX5_init_4 rfl ?_
  refine q_ic (v := nI 0) dX5_init_5 rfl ?_
  refine h_put0 dX5_init_6 (fw_X5_9 rfl) hs (Or.inl rfl) (by exact hz 0) ?_
  refine q_aln dX5_init_9 rfl ?_
  refine q_ic (v := nI 0) dX5_init_10 rfl ?_
  refine h_put0 dX5_init_11 (fw_X5_15 rfl) hs (Or.inr rfl) (by exact hz 1) ?_
  refine q_aln dX5_init_14 rfl ?_
  refine q_bp (v := nI 49) dX5_init_15 rfl ?_
  refine h_newI 49 dX5_init_17 (by decide) (by decide) (by decide) hF0 ?_
  have hG0 := hF0
  have hF1 := hF0.up (t' := (sk ++ [(100, 49)]).length) sk_le
  refine h_putR dX5_init_19 (fw_X5_19 rfl rfl) (sk_o hs) (Or.inr ⟨_, rfl⟩) ?_
  have hF2 := hF1.p (j := 2) (v := sk.length) (sk_l (sk_o hs))
  exact q_vr dX5_init_22 rfl rfl
set_option maxHeartbeats 2000000 in
theorem c_i6 {sk : List (Nat × Nat)} {ii : List (Nat × Nat × Int32)} {pp : List (Nat × Nat × Nat)} {u r  : Nat} (hs : sk[r]? = some (6, 0)) (hF : FR sk.length ii pp) (hz : ∀ j, lkI ii r j = 0) : am_C 1 m_X6_init [.ref r] (HL sk ii pp u) (none, (HL ((sk ++ [(100, 7)]) ++ [(100, 7)]) ii ((r, 2, (sk ++ [(100, 7)]).length) :: ((r, 1, sk.length) :: pp)) ((u + 7) + 7))) := by
  have hF0 := hF
  refine q_aln dX6_init_0 rfl ?_
  refine am_x_oi dX6_init_1 (by decide) (Nat.le_of_ble_eq_true rfl) lo_X6_3 wd_oi wd_oc ?_
  refine q_aln dX6_init_4 rfl ?_
  refine q_ic (v := nI 0) dX6_init_5 rfl ?_
  refine h_put0 dX6_init_6 (fw_X6_9 rfl) hs (Or.inl rfl) (by exact hz 0) ?_
  refine q_aln dX6_init_9 rfl ?_
  refine q_bp (v := nI 7) dX6_init_10 rfl ?_
  refine h_newI 7 dX6_init_12 (by decide) (by decide) (by decide) hF0 ?_
  have hG0 := hF0
  have hF1 := hF0.up (t' := (sk ++ [(100, 7)]).length) sk_le
  refine h_putR dX6_init_14 (fw_X6_15 rfl rfl) (sk_o hs) (Or.inr ⟨_, rfl⟩) ?_
  have hF2 := hF1.p (j := 1) (v := sk.length) (sk_l (sk_o hs))
  refine q_aln dX6_init_17 rfl ?_
  refine q_bp (v := nI 7) dX6_init_18 rfl ?_
  refine h_newI 7 dX6_init_20 (by decide) (by decide) (by decide) hF2 ?_
  have hG2 := hF2
  have hF3 := hF2.up (t' := ((sk ++ [(100, 7)]) ++ [(100, 7)]).length) sk_le
  refine h_putR dX6_init_22 (fw_X6_19 rfl rfl) (sk_o (sk_o hs)) (Or.inr ⟨_, rfl⟩) ?_
  have hF4 := hF3.p (j := 2) (v := (sk ++ [(100, 7)]).length) (sk_l (sk_o (sk_o hs)))
  exact q_vr dX6_init_25 rfl rfl
set_option maxHeartbeats 2000000 in
theorem c_i7 {sk : List (Nat × Nat)} {ii : List (Nat × Nat × Int32)} {pp : List (Nat × Nat × Nat)} {u r  : Nat} (hs : sk[r]? = some (7, 0)) (hF : FR sk.length ii pp) (hz : ∀ j, lkI ii r j = 0) : am_C 1 m_X7_init [.ref r] (HL sk ii pp u) (none, (HL (((sk ++ [(100, 40)]) ++ [(100, 40)]) ++ [(101, 40)]) ii ((r, 4, ((sk ++ [(100, 40)]) ++ [(100, 40)]).length) :: ((r, 3, (sk ++ [(100, 40)]).length) :: ((r, 2, sk.length) :: pp))) (((u + 40) + 40) + 40))) := by
  have hF0 := hF
  refine q_aln dX7_init_0 rfl ?_
  refine am_x_oi dX7_init_1 (by decide) (Nat.le_of_ble_eq_true rfl) lo_X7_3 wd_oi wd_oc ?_
  refine q_aln dX7_init_4 rfl ?_
  refine q_ic (v := nI 0) dX7_init_5 rfl ?_
  refine h_put0 dX7_init_6 (fw_X7_9 rfl) hs (Or.inl rfl) (by exact hz 0) ?_
  refine q_aln dX7_init_9 rfl ?_
  refine q_lc (v := 0) dX7_init_10 rfl ?_
  refine h_putL dX7_init_11 (fw_X7_15 rfl) hs rfl ?_
  refine q_aln dX7_init_14 rfl ?_
  refine q_bp (v := nI 40) dX7_init_15 rfl ?_
  refine h_newI 40 dX7_init_17 (by decide) (by decide) (by decide) hF0 ?_
  have hG0 := hF0
  have hF1 := hF0.up (t' := (sk ++ [(100, 40)]).length) sk_le
  refine h_putR dX7_init_19 (fw_X7_19 rfl rfl) (sk_o hs) (Or.inr ⟨_, rfl⟩) ?_
  have hF2 := hF1.p (j := 2) (v := sk.length) (sk_l (sk_o hs))
  refine q_aln dX7_init_22 rfl ?_
  refine q_bp (v := nI 40) dX7_init_23 rfl ?_
  refine h_newI 40 dX7_init_25 (by decide) (by decide) (by decide) hF2 ?_
  have hG2 := hF2
  have hF3 := hF2.up (t' := ((sk ++ [(100, 40)]) ++ [(100, 40)]).length) sk_le
  refine h_putR dX7_init_27 (fw_X7_23 rfl rfl) (sk_o (sk_o hs)) (Or.inr ⟨_, rfl⟩) ?_
  have hF4 := hF3.p (j := 3) (v := (sk ++ [(100, 40)]).length) (sk_l (sk_o (sk_o hs)))
  refine q_aln dX7_init_30 rfl ?_
  refine q_bp (v := nI 40) dX7_init_31 rfl ?_
  refine h_newL 40 dX7_init_33 (by decide) (by decide) (by decide) hF4 ?_
  have hG4 := hF4
  have hF5 := hF4.up (t' := (((sk ++ [(100, 40)]) ++ [(100, 40)]) ++ [(101, 40)]).length) sk_le
  refine h_putR dX7_init_35 (fw_X7_26 rfl rfl) (sk_o (sk_o (sk_o hs))) (Or.inr ⟨_, rfl⟩) ?_
  have hF6 := hF5.p (j := 4) (v := ((sk ++ [(100, 40)]) ++ [(100, 40)]).length) (sk_l (sk_o (sk_o (sk_o hs))))
  exact q_vr dX7_init_38 rfl rfl
set_option maxHeartbeats 2000000 in
theorem c_i2 {sk : List (Nat × Nat)} {ii : List (Nat × Nat × Int32)} {pp : List (Nat × Nat × Nat)} {u r a : Nat} (hs : sk[r]? = some (2, 0)) (hF : FR sk.length ii pp) (hz : ∀ j, lkI ii r j = 0) : am_C 2 m_X2_init [.ref r, .ref a] (HL sk ii pp u) (none, (HL ((sk ++ [(5, 0)]) ++ [(100, 49)]) ii ((r, 1, sk.length) :: ((sk.length, 2, (sk ++ [(5, 0)]).length) :: ((r, 0, a) :: pp))) ((u + 3) + 49))) := by
  have hF0 := hF
  refine q_aln dX2_init_0 rfl ?_
  refine am_x_oi dX2_init_1 (by decide) (Nat.le_of_ble_eq_true rfl) lo_X2_3 wd_oi wd_oc ?_
  refine q_aln dX2_init_4 rfl ?_
  refine q_aln dX2_init_5 rfl ?_
  refine h_putR dX2_init_6 (fw_X2_9 rfl rfl) hs (Or.inl ⟨_, rfl⟩) ?_
  have hF1 := hF0.p (j := 0) (v := a) (sk_l hs)
  refine q_aln dX2_init_9 rfl ?_
  refine h_new 3 dX2_init_10 ok_X5 cl_X2_15 it_X5 in_X5 rfl hF1 ?_
  have hG1 := hF1
  have hF2 := hF1.up (t' := (sk ++ [(5, 0)]).length) sk_le
  refine am_x_pu dX2_init_13 rfl ?_
  refine q_I0 (N := m_X5_init) dX2_init_14 lk_X2_17 mI_X5_init (c_i5 sk_n hF2 (lkI_fr hG1.1 (Nat.le_refl _))) (by decide) (Nat.le_of_ble_eq_true rfl) (Nat.le_of_ble_eq_true rfl) ?_
  have hF3 : FR ((sk ++ [(5, 0)]) ++ [(100, 49)]).length ii ((sk.length, 2, (sk ++ [(5, 0)]).length) :: ((r, 0, a) :: pp)) := by
    have z := hF2.up (t' := ((sk ++ [(5, 0)]) ++ [(100, 49)]).length) (sk_le)
    exact (FR.p z (sk_l (sk_o sk_n)))
  refine h_putR dX2_init_17 (fw_X2_18 rfl rfl) (sk_o (sk_o hs)) (Or.inl ⟨_, rfl⟩) ?_
  have hF4 := hF3.p (j := 1) (v := sk.length) (sk_l (sk_o (sk_o hs)))
  exact q_vr dX2_init_20 rfl rfl
set_option maxHeartbeats 2000000 in
theorem c_i4 {sk : List (Nat × Nat)} {ii : List (Nat × Nat × Int32)} {pp : List (Nat × Nat × Nat)} {u r a : Nat} (hs : sk[r]? = some (4, 0)) (hF : FR sk.length ii pp) (hz : ∀ j, lkI ii r j = 0) : am_C 1 m_X4_init [.ref r, .ref a] (HL sk ii pp u) (none, (HL (sk ++ [(100, 160)]) ii ((r, 1, sk.length) :: ((r, 0, a) :: pp)) (u + 160))) := by
  have hF0 := hF
  refine q_aln dX4_init_0 rfl ?_
  refine am_x_oi dX4_init_1 (by decide) (Nat.le_of_ble_eq_true rfl) lo_X4_3 wd_oi wd_oc ?_
  refine q_aln dX4_init_4 rfl ?_
  refine q_aln dX4_init_5 rfl ?_
  refine h_putR dX4_init_6 (fw_X4_9 rfl rfl) hs (Or.inl ⟨_, rfl⟩) ?_
  have hF1 := hF0.p (j := 0) (v := a) (sk_l hs)
  refine q_aln dX4_init_9 rfl ?_
  refine q_sp (v := nI 160) dX4_init_10 rfl ?_
  refine h_newI 160 dX4_init_13 (by decide) (by decide) (by decide) hF1 ?_
  have hG1 := hF1
  have hF2 := hF1.up (t' := (sk ++ [(100, 160)]).length) sk_le
  refine h_putR dX4_init_15 (fw_X4_17 rfl rfl) (sk_o hs) (Or.inr ⟨_, rfl⟩) ?_
  have hF3 := hF2.p (j := 1) (v := sk.length) (sk_l (sk_o hs))
  refine q_aln dX4_init_18 rfl ?_
  refine q_ic (v := nI 0) dX4_init_19 rfl ?_
  refine h_put0 dX4_init_20 (fw_X4_21 rfl) (sk_o hs) (Or.inl rfl) (by exact hz 2) ?_
  exact q_vr dX4_init_23 rfl rfl
set_option maxHeartbeats 2000000 in
theorem c_i8 {sk : List (Nat × Nat)} {ii : List (Nat × Nat × Int32)} {pp : List (Nat × Nat × Nat)} {u r a b : Nat} (hs : sk[r]? = some (8, 0)) (hF : FR sk.length ii pp) (hz : ∀ j, lkI ii r j = 0) : am_C 1 m_X8_init [.ref r, .ref a, .ref b] (HL sk ii pp u) (none, (HL (sk ++ [(100, 7)]) ii ((r, 2, sk.length) :: ((r, 1, b) :: ((r, 0, a) :: pp))) (u + 7))) := by
  have hF0 := hF
  refine q_aln dX8_init_0 rfl ?_
  refine am_x_oi dX8_init_1 (by decide) (Nat.le_of_ble_eq_true rfl) lo_X8_3 wd_oi wd_oc ?_
  refine q_aln dX8_init_4 rfl ?_
  refine q_aln dX8_init_5 rfl ?_
  refine h_putR dX8_init_6 (fw_X8_9 rfl rfl) hs (Or.inl ⟨_, rfl⟩) ?_
  have hF1 := hF0.p (j := 0) (v := a) (sk_l hs)
  refine q_aln dX8_init_9 rfl ?_
  refine q_aln dX8_init_10 rfl ?_
  refine h_putR dX8_init_11 (fw_X8_15 rfl rfl) hs (Or.inl ⟨_, rfl⟩) ?_
  have hF2 := hF1.p (j := 1) (v := b) (sk_l hs)
  refine q_aln dX8_init_14 rfl ?_
  refine q_bp (v := nI 7) dX8_init_15 rfl ?_
  refine h_newI 7 dX8_init_17 (by decide) (by decide) (by decide) hF2 ?_
  have hG2 := hF2
  have hF3 := hF2.up (t' := (sk ++ [(100, 7)]).length) sk_le
  refine h_putR dX8_init_19 (fw_X8_19 rfl rfl) (sk_o hs) (Or.inr ⟨_, rfl⟩) ?_
  have hF4 := hF3.p (j := 2) (v := sk.length) (sk_l (sk_o hs))
  exact q_vr dX8_init_22 rfl rfl
set_option maxHeartbeats 2000000 in
theorem c_i0 {sk : List (Nat × Nat)} {ii : List (Nat × Nat × Int32)} {pp : List (Nat × Nat × Nat)} {u r a : Nat} (hs : sk[r]? = some (0, 0)) (hF : FR sk.length ii pp) (hz : ∀ j, lkI ii r j = 0) (hn : ∀ j, lkP pp r j = none) : am_C 1 m_X0_init [.ref r, .ref a] (HL sk ii pp u) (none, (HL ((((((((sk ++ [(100, 6)]) ++ [(100, 343)]) ++ [(100, 8)]) ++ [(100, 7)]) ++ [(100, 7)]) ++ [(102, 3)]) ++ [(100, 3)]) ++ [(100, 3)]) ii ((r, 14, (((((((sk ++ [(100, 6)]) ++ [(100, 343)]) ++ [(100, 8)]) ++ [(100, 7)]) ++ [(100, 7)]) ++ [(102, 3)]) ++ [(100, 3)]).length) :: ((r, 13, ((((((sk ++ [(100, 6)]) ++ [(100, 343)]) ++ [(100, 8)]) ++ [(100, 7)]) ++ [(100, 7)]) ++ [(102, 3)]).length) :: ((r, 12, (((((sk ++ [(100, 6)]) ++ [(100, 343)]) ++ [(100, 8)]) ++ [(100, 7)]) ++ [(100, 7)]).length) :: ((r, 6, ((((sk ++ [(100, 6)]) ++ [(100, 343)]) ++ [(100, 8)]) ++ [(100, 7)]).length) :: ((r, 5, (((sk ++ [(100, 6)]) ++ [(100, 343)]) ++ [(100, 8)]).length) :: ((r, 4, ((sk ++ [(100, 6)]) ++ [(100, 343)]).length) :: ((r, 3, (sk ++ [(100, 6)]).length) :: ((r, 2, sk.length) :: ((r, 0, a) :: pp))))))))) ((((((((u + 6) + 343) + 8) + 7) + 7) + 3) + 3) + 3))) := by
  have hF0 := hF
  refine q_aln dX0_init_0 rfl ?_
  refine am_x_oi dX0_init_1 (by decide) (Nat.le_of_ble_eq_true rfl) lo_X0_3 wd_oi wd_oc ?_
  refine q_aln dX0_init_4 rfl ?_
  refine q_aln dX0_init_5 rfl ?_
  refine h_putR dX0_init_6 (fw_X0_9 rfl rfl) hs (Or.inl ⟨_, rfl⟩) ?_
  have hF1 := hF0.p (j := 0) (v := a) (sk_l hs)
  refine q_aln dX0_init_9 rfl ?_
  refine am_x_pu dX0_init_10 rfl ?_
  refine h_putN dX0_init_11 (fw_X0_15 rfl) hs (Or.inl ⟨_, rfl⟩) (by show (bif (Nat.beq r r && Nat.beq 1 0) then some a else lkP pp r 1) = none; rw [am_beq]; exact hn 1) ?_
  refine q_aln dX0_init_14 rfl ?_
  refine am_x_gs dX0_init_15 gs_X0_19 ?_
  refine am_x_slen dX0_init_18 (by decide) ?_
  refine h_newI 6 dX0_init_19 (by decide) (by decide) (by decide) hF1 ?_
  have hG1 := hF1
  have hF2 := hF1.up (t' := (sk ++ [(100, 6)]).length) sk_le
  refine h_putR dX0_init_21 (fw_X0_25 rfl rfl) (sk_o hs) (Or.inr ⟨_, rfl⟩) ?_
  have hF3 := hF2.p (j := 2) (v := sk.length) (sk_l (sk_o hs))
  refine q_aln dX0_init_24 rfl ?_
  refine q_sp (v := nI 343) dX0_init_25 rfl ?_
  refine h_newI 343 dX0_init_28 (by decide) (by decide) (by decide) hF3 ?_
  have hG3 := hF3
  have hF4 := hF3.up (t' := ((sk ++ [(100, 6)]) ++ [(100, 343)]).length) sk_le
  refine h_putR dX0_init_30 (fw_X0_28 rfl rfl) (sk_o (sk_o hs)) (Or.inr ⟨_, rfl⟩) ?_
  have hF5 := hF4.p (j := 3) (v := (sk ++ [(100, 6)]).length) (sk_l (sk_o (sk_o hs)))
  refine q_aln dX0_init_33 rfl ?_
  refine q_bp (v := nI 8) dX0_init_34 rfl ?_
  refine h_newI 8 dX0_init_36 (by decide) (by decide) (by decide) hF5 ?_
  have hG5 := hF5
  have hF6 := hF5.up (t' := (((sk ++ [(100, 6)]) ++ [(100, 343)]) ++ [(100, 8)]).length) sk_le
  refine h_putR dX0_init_38 (fw_X0_31 rfl rfl) (sk_o (sk_o (sk_o hs))) (Or.inr ⟨_, rfl⟩) ?_
  have hF7 := hF6.p (j := 4) (v := ((sk ++ [(100, 6)]) ++ [(100, 343)]).length) (sk_l (sk_o (sk_o (sk_o hs))))
  refine q_aln dX0_init_41 rfl ?_
  refine q_bp (v := nI 7) dX0_init_42 rfl ?_
  refine h_newI 7 dX0_init_44 (by decide) (by decide) (by decide) hF7 ?_
  have hG7 := hF7
  have hF8 := hF7.up (t' := ((((sk ++ [(100, 6)]) ++ [(100, 343)]) ++ [(100, 8)]) ++ [(100, 7)]).length) sk_le
  refine h_putR dX0_init_46 (fw_X0_34 rfl rfl) (sk_o (sk_o (sk_o (sk_o hs)))) (Or.inr ⟨_, rfl⟩) ?_
  have hF9 := hF8.p (j := 5) (v := (((sk ++ [(100, 6)]) ++ [(100, 343)]) ++ [(100, 8)]).length) (sk_l (sk_o (sk_o (sk_o (sk_o hs)))))
  refine q_aln dX0_init_49 rfl ?_
  refine q_bp (v := nI 7) dX0_init_50 rfl ?_
  refine h_newI 7 dX0_init_52 (by decide) (by decide) (by decide) hF9 ?_
  have hG9 := hF9
  have hF10 := hF9.up (t' := (((((sk ++ [(100, 6)]) ++ [(100, 343)]) ++ [(100, 8)]) ++ [(100, 7)]) ++ [(100, 7)]).length) sk_le
  refine h_putR dX0_init_54 (fw_X0_37 rfl rfl) (sk_o (sk_o (sk_o (sk_o (sk_o hs))))) (Or.inr ⟨_, rfl⟩) ?_
  have hF11 := hF10.p (j := 6) (v := ((((sk ++ [(100, 6)]) ++ [(100, 343)]) ++ [(100, 8)]) ++ [(100, 7)]).length) (sk_l (sk_o (sk_o (sk_o (sk_o (sk_o hs))))))
  refine q_aln dX0_init_57 rfl ?_
  refine q_ic (v := nI 3) dX0_init_58 rfl ?_
  refine h_newZ 3 dX0_init_59 (by decide) (by decide) (by decide) hF11 ?_
  have hG11 := hF11
  have hF12 := hF11.up (t' := ((((((sk ++ [(100, 6)]) ++ [(100, 343)]) ++ [(100, 8)]) ++ [(100, 7)]) ++ [(100, 7)]) ++ [(102, 3)]).length) sk_le
  refine h_putR dX0_init_61 (fw_X0_40 rfl rfl) (sk_o (sk_o (sk_o (sk_o (sk_o (sk_o hs)))))) (Or.inr ⟨_, rfl⟩) ?_
  have hF13 := hF12.p (j := 12) (v := (((((sk ++ [(100, 6)]) ++ [(100, 343)]) ++ [(100, 8)]) ++ [(100, 7)]) ++ [(100, 7)]).length) (sk_l (sk_o (sk_o (sk_o (sk_o (sk_o (sk_o hs)))))))
  refine q_aln dX0_init_64 rfl ?_
  refine q_ic (v := nI 3) dX0_init_65 rfl ?_
  refine h_newI 3 dX0_init_66 (by decide) (by decide) (by decide) hF13 ?_
  have hG13 := hF13
  have hF14 := hF13.up (t' := (((((((sk ++ [(100, 6)]) ++ [(100, 343)]) ++ [(100, 8)]) ++ [(100, 7)]) ++ [(100, 7)]) ++ [(102, 3)]) ++ [(100, 3)]).length) sk_le
  refine h_putR dX0_init_68 (fw_X0_44 rfl rfl) (sk_o (sk_o (sk_o (sk_o (sk_o (sk_o (sk_o hs))))))) (Or.inr ⟨_, rfl⟩) ?_
  have hF15 := hF14.p (j := 13) (v := ((((((sk ++ [(100, 6)]) ++ [(100, 343)]) ++ [(100, 8)]) ++ [(100, 7)]) ++ [(100, 7)]) ++ [(102, 3)]).length) (sk_l (sk_o (sk_o (sk_o (sk_o (sk_o (sk_o (sk_o hs))))))))
  refine q_aln dX0_init_71 rfl ?_
  refine q_ic (v := nI 3) dX0_init_72 rfl ?_
  refine h_newI 3 dX0_init_73 (by decide) (by decide) (by decide) hF15 ?_
  have hG15 := hF15
  have hF16 := hF15.up (t' := ((((((((sk ++ [(100, 6)]) ++ [(100, 343)]) ++ [(100, 8)]) ++ [(100, 7)]) ++ [(100, 7)]) ++ [(102, 3)]) ++ [(100, 3)]) ++ [(100, 3)]).length) sk_le
  refine h_putR dX0_init_75 (fw_X0_47 rfl rfl) (sk_o (sk_o (sk_o (sk_o (sk_o (sk_o (sk_o (sk_o hs)))))))) (Or.inr ⟨_, rfl⟩) ?_
  have hF17 := hF16.p (j := 14) (v := (((((((sk ++ [(100, 6)]) ++ [(100, 343)]) ++ [(100, 8)]) ++ [(100, 7)]) ++ [(100, 7)]) ++ [(102, 3)]) ++ [(100, 3)]).length) (sk_l (sk_o (sk_o (sk_o (sk_o (sk_o (sk_o (sk_o (sk_o hs)))))))))
  exact q_vr dX0_init_78 rfl rfl
set_option maxHeartbeats 2000000 in
theorem c_i1 {sk : List (Nat × Nat)} {ii : List (Nat × Nat × Int32)} {pp : List (Nat × Nat × Nat)} {u r a b : Nat} (hs : sk[r]? = some (1, 0)) (hF : FR sk.length ii pp) (hz : ∀ j, lkI ii r j = 0) : am_C 2 m_X1_init [.ref r, .ref a, .ref b] (HL sk ii pp u) (none, (HL (((((((sk ++ [(6, 0)]) ++ [(100, 7)]) ++ [(100, 7)]) ++ [(8, 0)]) ++ [(100, 7)]) ++ [(100, 5040)]) ++ [(101, 79)]) ((r, 9, -1) :: ((r, 8, -1) :: ii)) ((r, 6, ((((((sk ++ [(6, 0)]) ++ [(100, 7)]) ++ [(100, 7)]) ++ [(8, 0)]) ++ [(100, 7)]) ++ [(100, 5040)]).length) :: ((r, 4, (((((sk ++ [(6, 0)]) ++ [(100, 7)]) ++ [(100, 7)]) ++ [(8, 0)]) ++ [(100, 7)]).length) :: ((r, 3, (((sk ++ [(6, 0)]) ++ [(100, 7)]) ++ [(100, 7)]).length) :: (((((sk ++ [(6, 0)]) ++ [(100, 7)]) ++ [(100, 7)]).length, 2, ((((sk ++ [(6, 0)]) ++ [(100, 7)]) ++ [(100, 7)]) ++ [(8, 0)]).length) :: (((((sk ++ [(6, 0)]) ++ [(100, 7)]) ++ [(100, 7)]).length, 1, sk.length) :: (((((sk ++ [(6, 0)]) ++ [(100, 7)]) ++ [(100, 7)]).length, 0, a) :: ((r, 2, sk.length) :: ((sk.length, 2, ((sk ++ [(6, 0)]) ++ [(100, 7)]).length) :: ((sk.length, 1, (sk ++ [(6, 0)]).length) :: ((r, 1, b) :: ((r, 0, a) :: pp))))))))))) (((((((u + 3) + 7) + 7) + 3) + 7) + 5040) + 79))) := by
  have hF0 := hF
  refine q_aln dX1_init_0 rfl ?_
  refine am_x_oi dX1_init_1 (by decide) (Nat.le_of_ble_eq_true rfl) lo_X1_3 wd_oi wd_oc ?_
  refine q_aln dX1_init_4 rfl ?_
  refine q_aln dX1_init_5 rfl ?_
  refine h_putR dX1_init_6 (fw_X1_9 rfl rfl) hs (Or.inl ⟨_, rfl⟩) ?_
  have hF1 := hF0.p (j := 0) (v := a) (sk_l hs)
  refine q_aln dX1_init_9 rfl ?_
  refine q_aln dX1_init_10 rfl ?_
  refine h_putR dX1_init_11 (fw_X1_15 rfl rfl) hs (Or.inl ⟨_, rfl⟩) ?_
  have hF2 := hF1.p (j := 1) (v := b) (sk_l hs)
  refine q_aln dX1_init_14 rfl ?_
  refine h_new 3 dX1_init_15 ok_X6 cl_X1_19 it_X6 in_X6 rfl hF2 ?_
  have hG2 := hF2
  have hF3 := hF2.up (t' := (sk ++ [(6, 0)]).length) sk_le
  refine am_x_pu dX1_init_18 rfl ?_
  refine q_I0 (N := m_X6_init) dX1_init_19 lk_X1_21 mI_X6_init (c_i6 sk_n hF3 (lkI_fr hG2.1 (Nat.le_refl _))) (by decide) (Nat.le_of_ble_eq_true rfl) (Nat.le_of_ble_eq_true rfl) ?_
  have hF4 : FR (((sk ++ [(6, 0)]) ++ [(100, 7)]) ++ [(100, 7)]).length ii ((sk.length, 2, ((sk ++ [(6, 0)]) ++ [(100, 7)]).length) :: ((sk.length, 1, (sk ++ [(6, 0)]).length) :: ((r, 1, b) :: ((r, 0, a) :: pp)))) := by
    have z := hF3.up (t' := (((sk ++ [(6, 0)]) ++ [(100, 7)]) ++ [(100, 7)]).length) (Nat.le_trans sk_le (sk_le))
    exact (FR.p (FR.p z (sk_l (sk_o (sk_o sk_n)))) (sk_l (sk_o (sk_o sk_n))))
  refine h_putR dX1_init_22 (fw_X1_22 rfl rfl) (sk_o (sk_o (sk_o hs))) (Or.inl ⟨_, rfl⟩) ?_
  have hF5 := hF4.p (j := 2) (v := sk.length) (sk_l (sk_o (sk_o (sk_o hs))))
  refine q_aln dX1_init_25 rfl ?_
  refine h_new 3 dX1_init_26 ok_X8 cl_X1_25 it_X8 in_X8 rfl hF5 ?_
  have hG5 := hF5
  have hF6 := hF5.up (t' := ((((sk ++ [(6, 0)]) ++ [(100, 7)]) ++ [(100, 7)]) ++ [(8, 0)]).length) sk_le
  refine am_x_pu dX1_init_29 rfl ?_
  refine q_aln dX1_init_30 rfl ?_
  refine q_aln dX1_init_31 rfl ?_
  refine h_getR (x := sk.length) dX1_init_32 fl_X1_22 (sk_o (sk_o (sk_o (sk_o hs)))) rfl (lkP_h (r := r) (j := 2)) ?_
  refine q_I2 (N := m_X8_init) dX1_init_35 lk_X1_27 mI_X8_init (c_i8 sk_n hF6 (lkI_fr hG5.1 (Nat.le_refl _))) (by decide) (Nat.le_of_ble_eq_true rfl) (Nat.le_of_ble_eq_true rfl) ?_
  have hF7 : FR (((((sk ++ [(6, 0)]) ++ [(100, 7)]) ++ [(100, 7)]) ++ [(8, 0)]) ++ [(100, 7)]).length ii (((((sk ++ [(6, 0)]) ++ [(100, 7)]) ++ [(100, 7)]).length, 2, ((((sk ++ [(6, 0)]) ++ [(100, 7)]) ++ [(100, 7)]) ++ [(8, 0)]).length) :: (((((sk ++ [(6, 0)]) ++ [(100, 7)]) ++ [(100, 7)]).length, 1, sk.length) :: (((((sk ++ [(6, 0)]) ++ [(100, 7)]) ++ [(100, 7)]).length, 0, a) :: ((r, 2, sk.length) :: ((sk.length, 2, ((sk ++ [(6, 0)]) ++ [(100, 7)]).length) :: ((sk.length, 1, (sk ++ [(6, 0)]).length) :: ((r, 1, b) :: ((r, 0, a) :: pp)))))))) := by
    have z := hF6.up (t' := (((((sk ++ [(6, 0)]) ++ [(100, 7)]) ++ [(100, 7)]) ++ [(8, 0)]) ++ [(100, 7)]).length) (sk_le)
    exact (FR.p (FR.p (FR.p z (sk_l (sk_o sk_n))) (sk_l (sk_o sk_n))) (sk_l (sk_o sk_n)))
  refine h_putR dX1_init_38 (fw_X1_30 rfl rfl) (sk_o (sk_o (sk_o (sk_o (sk_o hs))))) (Or.inl ⟨_, rfl⟩) ?_
  have hF8 := hF7.p (j := 3) (v := (((sk ++ [(6, 0)]) ++ [(100, 7)]) ++ [(100, 7)]).length) (sk_l (sk_o (sk_o (sk_o (sk_o (sk_o hs))))))
  refine q_aln dX1_init_41 rfl ?_
  refine q_sp (v := nI 5040) dX1_init_42 rfl ?_
  refine h_newI 5040 dX1_init_45 (by decide) (by decide) (by decide) hF8 ?_
  have hG8 := hF8
  have hF9 := hF8.up (t' := ((((((sk ++ [(6, 0)]) ++ [(100, 7)]) ++ [(100, 7)]) ++ [(8, 0)]) ++ [(100, 7)]) ++ [(100, 5040)]).length) sk_le
  refine h_putR dX1_init_47 (fw_X1_34 rfl rfl) (sk_o (sk_o (sk_o (sk_o (sk_o (sk_o hs)))))) (Or.inr ⟨_, rfl⟩) ?_
  have hF10 := hF9.p (j := 4) (v := (((((sk ++ [(6, 0)]) ++ [(100, 7)]) ++ [(100, 7)]) ++ [(8, 0)]) ++ [(100, 7)]).length) (sk_l (sk_o (sk_o (sk_o (sk_o (sk_o (sk_o hs)))))))
  refine q_aln dX1_init_50 rfl ?_
  refine q_ic (v := nI 0) dX1_init_51 rfl ?_
  refine h_put0 dX1_init_52 (fw_X1_38 rfl) (sk_o (sk_o (sk_o (sk_o (sk_o (sk_o hs)))))) (Or.inl rfl) (by exact hz 5) ?_
  refine q_aln dX1_init_55 rfl ?_
  refine q_bp (v := nI 79) dX1_init_56 rfl ?_
  refine h_newL 79 dX1_init_58 (by decide) (by decide) (by decide) hF10 ?_
  have hG10 := hF10
  have hF11 := hF10.up (t' := (((((((sk ++ [(6, 0)]) ++ [(100, 7)]) ++ [(100, 7)]) ++ [(8, 0)]) ++ [(100, 7)]) ++ [(100, 5040)]) ++ [(101, 79)]).length) sk_le
  refine h_putR dX1_init_60 (fw_X1_42 rfl rfl) (sk_o (sk_o (sk_o (sk_o (sk_o (sk_o (sk_o hs))))))) (Or.inr ⟨_, rfl⟩) ?_
  have hF12 := hF11.p (j := 6) (v := ((((((sk ++ [(6, 0)]) ++ [(100, 7)]) ++ [(100, 7)]) ++ [(8, 0)]) ++ [(100, 7)]) ++ [(100, 5040)]).length) (sk_l (sk_o (sk_o (sk_o (sk_o (sk_o (sk_o (sk_o hs))))))))
  refine q_aln dX1_init_63 rfl ?_
  refine q_ic (v := nI 0) dX1_init_64 rfl ?_
  refine h_put0 dX1_init_65 (fw_X1_46 rfl) (sk_o (sk_o (sk_o (sk_o (sk_o (sk_o (sk_o hs))))))) (Or.inr rfl) (by exact hz 7) ?_
  refine q_aln dX1_init_68 rfl ?_
  refine q_ic (v := -1) dX1_init_69 rfl ?_
  refine h_putI dX1_init_70 (fw_X1_50 rfl) (sk_o (sk_o (sk_o (sk_o (sk_o (sk_o (sk_o hs))))))) rfl ?_
  have hF13 := hF12.i (j := 8) (v := -1) (sk_l (sk_o (sk_o (sk_o (sk_o (sk_o (sk_o (sk_o hs))))))))
  refine q_aln dX1_init_73 rfl ?_
  refine q_ic (v := -1) dX1_init_74 rfl ?_
  refine h_putI dX1_init_75 (fw_X1_53 rfl) (sk_o (sk_o (sk_o (sk_o (sk_o (sk_o (sk_o hs))))))) rfl ?_
  have hF14 := hF13.i (j := 9) (v := -1) (sk_l (sk_o (sk_o (sk_o (sk_o (sk_o (sk_o (sk_o hs))))))))
  exact q_vr dX1_init_78 rfl rfl
set_option maxHeartbeats 2000000 in
theorem c_i10 {sk : List (Nat × Nat)} {ii : List (Nat × Nat × Int32)} {pp : List (Nat × Nat × Nat)} {u r a : Nat} (hs : sk[r]? = some (10, 0)) (hF : FR sk.length ii pp) (hz : ∀ j, lkI ii r j = 0) (ha : sk[a]? = some (8, 0)) (hra : a ≠ r) {mm : Nat} (hp : lkP pp a 0 = some mm) : am_C 1 m_X10_init [.ref r, .ref a] (HL sk ii pp u) (none, (HL (((sk ++ [(101, 8)]) ++ [(100, 20)]) ++ [(102, 20)]) ii ((r, 5, ((sk ++ [(101, 8)]) ++ [(100, 20)]).length) :: ((r, 4, (sk ++ [(101, 8)]).length) :: ((r, 2, sk.length) :: ((r, 1, mm) :: ((r, 0, a) :: pp))))) (((u + 8) + 20) + 20))) := by
  have hF0 := hF
  refine q_aln dX10_init_0 rfl ?_
  refine am_x_oi dX10_init_1 (by decide) (Nat.le_of_ble_eq_true rfl) lo_X10_3 wd_oi wd_oc ?_
  refine q_aln dX10_init_4 rfl ?_
  refine q_aln dX10_init_5 rfl ?_
  refine h_putR dX10_init_6 (fw_X10_9 rfl rfl) hs (Or.inl ⟨_, rfl⟩) ?_
  have hF1 := hF0.p (j := 0) (v := a) (sk_l hs)
  refine q_aln dX10_init_9 rfl ?_
  refine q_aln dX10_init_10 rfl ?_
  refine h_getR (x := mm) dX10_init_11 fl_X10_15 ha rfl ((lkP_o hra).trans hp) ?_
  refine h_putR dX10_init_14 (fw_X10_21 rfl rfl) hs (Or.inl ⟨_, rfl⟩) ?_
  have hF2 := hF1.p (j := 1) (v := mm) (sk_l hs)
  refine q_aln dX10_init_17 rfl ?_
  refine q_bp (v := nI 8) dX10_init_18 rfl ?_
  refine h_newL 8 dX10_init_20 (by decide) (by decide) (by decide) hF2 ?_
  have hG2 := hF2
  have hF3 := hF2.up (t' := (sk ++ [(101, 8)]).length) sk_le
  refine h_putR dX10_init_22 (fw_X10_22 rfl rfl) (sk_o hs) (Or.inr ⟨_, rfl⟩) ?_
  have hF4 := hF3.p (j := 2) (v := sk.length) (sk_l (sk_o hs))
  refine q_aln dX10_init_25 rfl ?_
  refine q_ic (v := nI 0) dX10_init_26 rfl ?_
  refine h_put0 dX10_init_27 (fw_X10_26 rfl) (sk_o hs) (Or.inl rfl) (by exact hz 3) ?_
  refine q_aln dX10_init_30 rfl ?_
  refine q_bp (v := nI 20) dX10_init_31 rfl ?_
  refine h_newI 20 dX10_init_33 (by decide) (by decide) (by decide) hF4 ?_
  have hG4 := hF4
  have hF5 := hF4.up (t' := ((sk ++ [(101, 8)]) ++ [(100, 20)]).length) sk_le
  refine h_putR dX10_init_35 (fw_X10_30 rfl rfl) (sk_o (sk_o hs)) (Or.inr ⟨_, rfl⟩) ?_
  have hF6 := hF5.p (j := 4) (v := (sk ++ [(101, 8)]).length) (sk_l (sk_o (sk_o hs)))
  refine q_aln dX10_init_38 rfl ?_
  refine q_bp (v := nI 20) dX10_init_39 rfl ?_
  refine h_newZ 20 dX10_init_41 (by decide) (by decide) (by decide) hF6 ?_
  have hG6 := hF6
  have hF7 := hF6.up (t' := (((sk ++ [(101, 8)]) ++ [(100, 20)]) ++ [(102, 20)]).length) sk_le
  refine h_putR dX10_init_43 (fw_X10_34 rfl rfl) (sk_o (sk_o (sk_o hs))) (Or.inr ⟨_, rfl⟩) ?_
  have hF8 := hF7.p (j := 5) (v := ((sk ++ [(101, 8)]) ++ [(100, 20)]).length) (sk_l (sk_o (sk_o (sk_o hs))))
  refine q_aln dX10_init_46 rfl ?_
  refine q_ic (v := nI 0) dX10_init_47 rfl ?_
  refine h_put0 dX10_init_48 (fw_X10_38 rfl) (sk_o (sk_o (sk_o hs))) (Or.inl rfl) (by exact hz 6) ?_
  refine q_aln dX10_init_51 rfl ?_
  refine q_ic (v := nI 0) dX10_init_52 rfl ?_
  refine h_put0 dX10_init_53 (fw_X10_41 rfl) (sk_o (sk_o (sk_o hs))) (Or.inl rfl) (by exact hz 7) ?_
  exact q_vr dX10_init_56 rfl rfl
set_option maxHeartbeats 2000000 in
theorem c_i12 {sk : List (Nat × Nat)} {ii : List (Nat × Nat × Int32)} {pp : List (Nat × Nat × Nat)} {u r  : Nat} (hs : sk[r]? = some (12, 0)) (hF : FR sk.length ii pp) (hz : ∀ j, lkI ii r j = 0) : am_C 1 m_X12_init [.ref r] (HL sk ii pp u) (none, (HL ((((((((((((((((((((((((((((sk ++ [(100, 160)]) ++ [(100, 1700)]) ++ [(100, 1700)]) ++ [(100, 5)]) ++ [(100, 5)]) ++ [(100, 450)]) ++ [(100, 450)]) ++ [(100, 450)]) ++ [(100, 6)]) ++ [(100, 80)]) ++ [(100, 49)]) ++ [(100, 49)]) ++ [(100, 7)]) ++ [(101, 8)]) ++ [(100, 7)]) ++ [(100, 5040)]) ++ [(100, 5040)]) ++ [(100, 20)]) ++ [(102, 20)]) ++ [(100, 7)]) ++ [(100, 40)]) ++ [(102, 40)]) ++ [(101, 40)]) ++ [(100, 7)]) ++ [(100, 14)]) ++ [(100, 40)]) ++ [(102, 40)]) ++ [(101, 40)]) ((r, 24, -1) :: ii) ((r, 47, (((((((((((((((((((((((((((sk ++ [(100, 160)]) ++ [(100, 1700)]) ++ [(100, 1700)]) ++ [(100, 5)]) ++ [(100, 5)]) ++ [(100, 450)]) ++ [(100, 450)]) ++ [(100, 450)]) ++ [(100, 6)]) ++ [(100, 80)]) ++ [(100, 49)]) ++ [(100, 49)]) ++ [(100, 7)]) ++ [(101, 8)]) ++ [(100, 7)]) ++ [(100, 5040)]) ++ [(100, 5040)]) ++ [(100, 20)]) ++ [(102, 20)]) ++ [(100, 7)]) ++ [(100, 40)]) ++ [(102, 40)]) ++ [(101, 40)]) ++ [(100, 7)]) ++ [(100, 14)]) ++ [(100, 40)]) ++ [(102, 40)]).length) :: ((r, 46, ((((((((((((((((((((((((((sk ++ [(100, 160)]) ++ [(100, 1700)]) ++ [(100, 1700)]) ++ [(100, 5)]) ++ [(100, 5)]) ++ [(100, 450)]) ++ [(100, 450)]) ++ [(100, 450)]) ++ [(100, 6)]) ++ [(100, 80)]) ++ [(100, 49)]) ++ [(100, 49)]) ++ [(100, 7)]) ++ [(101, 8)]) ++ [(100, 7)]) ++ [(100, 5040)]) ++ [(100, 5040)]) ++ [(100, 20)]) ++ [(102, 20)]) ++ [(100, 7)]) ++ [(100, 40)]) ++ [(102, 40)]) ++ [(101, 40)]) ++ [(100, 7)]) ++ [(100, 14)]) ++ [(100, 40)]).length) :: ((r, 45, (((((((((((((((((((((((((sk ++ [(100, 160)]) ++ [(100, 1700)]) ++ [(100, 1700)]) ++ [(100, 5)]) ++ [(100, 5)]) ++ [(100, 450)]) ++ [(100, 450)]) ++ [(100, 450)]) ++ [(100, 6)]) ++ [(100, 80)]) ++ [(100, 49)]) ++ [(100, 49)]) ++ [(100, 7)]) ++ [(101, 8)]) ++ [(100, 7)]) ++ [(100, 5040)]) ++ [(100, 5040)]) ++ [(100, 20)]) ++ [(102, 20)]) ++ [(100, 7)]) ++ [(100, 40)]) ++ [(102, 40)]) ++ [(101, 40)]) ++ [(100, 7)]) ++ [(100, 14)]).length) :: ((r, 44, ((((((((((((((((((((((((sk ++ [(100, 160)]) ++ [(100, 1700)]) ++ [(100, 1700)]) ++ [(100, 5)]) ++ [(100, 5)]) ++ [(100, 450)]) ++ [(100, 450)]) ++ [(100, 450)]) ++ [(100, 6)]) ++ [(100, 80)]) ++ [(100, 49)]) ++ [(100, 49)]) ++ [(100, 7)]) ++ [(101, 8)]) ++ [(100, 7)]) ++ [(100, 5040)]) ++ [(100, 5040)]) ++ [(100, 20)]) ++ [(102, 20)]) ++ [(100, 7)]) ++ [(100, 40)]) ++ [(102, 40)]) ++ [(101, 40)]) ++ [(100, 7)]).length) :: ((r, 43, (((((((((((((((((((((((sk ++ [(100, 160)]) ++ [(100, 1700)]) ++ [(100, 1700)]) ++ [(100, 5)]) ++ [(100, 5)]) ++ [(100, 450)]) ++ [(100, 450)]) ++ [(100, 450)]) ++ [(100, 6)]) ++ [(100, 80)]) ++ [(100, 49)]) ++ [(100, 49)]) ++ [(100, 7)]) ++ [(101, 8)]) ++ [(100, 7)]) ++ [(100, 5040)]) ++ [(100, 5040)]) ++ [(100, 20)]) ++ [(102, 20)]) ++ [(100, 7)]) ++ [(100, 40)]) ++ [(102, 40)]) ++ [(101, 40)]).length) :: ((r, 40, ((((((((((((((((((((((sk ++ [(100, 160)]) ++ [(100, 1700)]) ++ [(100, 1700)]) ++ [(100, 5)]) ++ [(100, 5)]) ++ [(100, 450)]) ++ [(100, 450)]) ++ [(100, 450)]) ++ [(100, 6)]) ++ [(100, 80)]) ++ [(100, 49)]) ++ [(100, 49)]) ++ [(100, 7)]) ++ [(101, 8)]) ++ [(100, 7)]) ++ [(100, 5040)]) ++ [(100, 5040)]) ++ [(100, 20)]) ++ [(102, 20)]) ++ [(100, 7)]) ++ [(100, 40)]) ++ [(102, 40)]).length) :: ((r, 39, (((((((((((((((((((((sk ++ [(100, 160)]) ++ [(100, 1700)]) ++ [(100, 1700)]) ++ [(100, 5)]) ++ [(100, 5)]) ++ [(100, 450)]) ++ [(100, 450)]) ++ [(100, 450)]) ++ [(100, 6)]) ++ [(100, 80)]) ++ [(100, 49)]) ++ [(100, 49)]) ++ [(100, 7)]) ++ [(101, 8)]) ++ [(100, 7)]) ++ [(100, 5040)]) ++ [(100, 5040)]) ++ [(100, 20)]) ++ [(102, 20)]) ++ [(100, 7)]) ++ [(100, 40)]).length) :: ((r, 38, ((((((((((((((((((((sk ++ [(100, 160)]) ++ [(100, 1700)]) ++ [(100, 1700)]) ++ [(100, 5)]) ++ [(100, 5)]) ++ [(100, 450)]) ++ [(100, 450)]) ++ [(100, 450)]) ++ [(100, 6)]) ++ [(100, 80)]) ++ [(100, 49)]) ++ [(100, 49)]) ++ [(100, 7)]) ++ [(101, 8)]) ++ [(100, 7)]) ++ [(100, 5040)]) ++ [(100, 5040)]) ++ [(100, 20)]) ++ [(102, 20)]) ++ [(100, 7)]).length) :: ((r, 37, (((((((((((((((((((sk ++ [(100, 160)]) ++ [(100, 1700)]) ++ [(100, 1700)]) ++ [(100, 5)]) ++ [(100, 5)]) ++ [(100, 450)]) ++ [(100, 450)]) ++ [(100, 450)]) ++ [(100, 6)]) ++ [(100, 80)]) ++ [(100, 49)]) ++ [(100, 49)]) ++ [(100, 7)]) ++ [(101, 8)]) ++ [(100, 7)]) ++ [(100, 5040)]) ++ [(100, 5040)]) ++ [(100, 20)]) ++ [(102, 20)]).length) :: ((r, 35, ((((((((((((((((((sk ++ [(100, 160)]) ++ [(100, 1700)]) ++ [(100, 1700)]) ++ [(100, 5)]) ++ [(100, 5)]) ++ [(100, 450)]) ++ [(100, 450)]) ++ [(100, 450)]) ++ [(100, 6)]) ++ [(100, 80)]) ++ [(100, 49)]) ++ [(100, 49)]) ++ [(100, 7)]) ++ [(101, 8)]) ++ [(100, 7)]) ++ [(100, 5040)]) ++ [(100, 5040)]) ++ [(100, 20)]).length) :: ((r, 34, (((((((((((((((((sk ++ [(100, 160)]) ++ [(100, 1700)]) ++ [(100, 1700)]) ++ [(100, 5)]) ++ [(100, 5)]) ++ [(100, 450)]) ++ [(100, 450)]) ++ [(100, 450)]) ++ [(100, 6)]) ++ [(100, 80)]) ++ [(100, 49)]) ++ [(100, 49)]) ++ [(100, 7)]) ++ [(101, 8)]) ++ [(100, 7)]) ++ [(100, 5040)]) ++ [(100, 5040)]).length) :: ((r, 32, ((((((((((((((((sk ++ [(100, 160)]) ++ [(100, 1700)]) ++ [(100, 1700)]) ++ [(100, 5)]) ++ [(100, 5)]) ++ [(100, 450)]) ++ [(100, 450)]) ++ [(100, 450)]) ++ [(100, 6)]) ++ [(100, 80)]) ++ [(100, 49)]) ++ [(100, 49)]) ++ [(100, 7)]) ++ [(101, 8)]) ++ [(100, 7)]) ++ [(100, 5040)]).length) :: ((r, 31, (((((((((((((((sk ++ [(100, 160)]) ++ [(100, 1700)]) ++ [(100, 1700)]) ++ [(100, 5)]) ++ [(100, 5)]) ++ [(100, 450)]) ++ [(100, 450)]) ++ [(100, 450)]) ++ [(100, 6)]) ++ [(100, 80)]) ++ [(100, 49)]) ++ [(100, 49)]) ++ [(100, 7)]) ++ [(101, 8)]) ++ [(100, 7)]).length) :: ((r, 30, ((((((((((((((sk ++ [(100, 160)]) ++ [(100, 1700)]) ++ [(100, 1700)]) ++ [(100, 5)]) ++ [(100, 5)]) ++ [(100, 450)]) ++ [(100, 450)]) ++ [(100, 450)]) ++ [(100, 6)]) ++ [(100, 80)]) ++ [(100, 49)]) ++ [(100, 49)]) ++ [(100, 7)]) ++ [(101, 8)]).length) :: ((r, 29, (((((((((((((sk ++ [(100, 160)]) ++ [(100, 1700)]) ++ [(100, 1700)]) ++ [(100, 5)]) ++ [(100, 5)]) ++ [(100, 450)]) ++ [(100, 450)]) ++ [(100, 450)]) ++ [(100, 6)]) ++ [(100, 80)]) ++ [(100, 49)]) ++ [(100, 49)]) ++ [(100, 7)]).length) :: ((r, 23, ((((((((((((sk ++ [(100, 160)]) ++ [(100, 1700)]) ++ [(100, 1700)]) ++ [(100, 5)]) ++ [(100, 5)]) ++ [(100, 450)]) ++ [(100, 450)]) ++ [(100, 450)]) ++ [(100, 6)]) ++ [(100, 80)]) ++ [(100, 49)]) ++ [(100, 49)]).length) :: ((r, 20, (((((((((((sk ++ [(100, 160)]) ++ [(100, 1700)]) ++ [(100, 1700)]) ++ [(100, 5)]) ++ [(100, 5)]) ++ [(100, 450)]) ++ [(100, 450)]) ++ [(100, 450)]) ++ [(100, 6)]) ++ [(100, 80)]) ++ [(100, 49)]).length) :: ((r, 17, ((((((((((sk ++ [(100, 160)]) ++ [(100, 1700)]) ++ [(100, 1700)]) ++ [(100, 5)]) ++ [(100, 5)]) ++ [(100, 450)]) ++ [(100, 450)]) ++ [(100, 450)]) ++ [(100, 6)]) ++ [(100, 80)]).length) :: ((r, 16, (((((((((sk ++ [(100, 160)]) ++ [(100, 1700)]) ++ [(100, 1700)]) ++ [(100, 5)]) ++ [(100, 5)]) ++ [(100, 450)]) ++ [(100, 450)]) ++ [(100, 450)]) ++ [(100, 6)]).length) :: ((r, 15, ((((((((sk ++ [(100, 160)]) ++ [(100, 1700)]) ++ [(100, 1700)]) ++ [(100, 5)]) ++ [(100, 5)]) ++ [(100, 450)]) ++ [(100, 450)]) ++ [(100, 450)]).length) :: ((r, 12, (((((((sk ++ [(100, 160)]) ++ [(100, 1700)]) ++ [(100, 1700)]) ++ [(100, 5)]) ++ [(100, 5)]) ++ [(100, 450)]) ++ [(100, 450)]).length) :: ((r, 11, ((((((sk ++ [(100, 160)]) ++ [(100, 1700)]) ++ [(100, 1700)]) ++ [(100, 5)]) ++ [(100, 5)]) ++ [(100, 450)]).length) :: ((r, 10, (((((sk ++ [(100, 160)]) ++ [(100, 1700)]) ++ [(100, 1700)]) ++ [(100, 5)]) ++ [(100, 5)]).length) :: ((r, 9, ((((sk ++ [(100, 160)]) ++ [(100, 1700)]) ++ [(100, 1700)]) ++ [(100, 5)]).length) :: ((r, 8, (((sk ++ [(100, 160)]) ++ [(100, 1700)]) ++ [(100, 1700)]).length) :: ((r, 7, ((sk ++ [(100, 160)]) ++ [(100, 1700)]).length) :: ((r, 6, (sk ++ [(100, 160)]).length) :: ((r, 1, sk.length) :: pp)))))))))))))))))))))))))))) ((((((((((((((((((((((((((((u + 160) + 1700) + 1700) + 5) + 5) + 450) + 450) + 450) + 6) + 80) + 49) + 49) + 7) + 8) + 7) + 5040) + 5040) + 20) + 20) + 7) + 40) + 40) + 40) + 7) + 14) + 40) + 40) + 40))) := by
  have hF0 := hF
  refine q_aln dX12_init_0 rfl ?_
  refine am_x_oi dX12_init_1 (by decide) (Nat.le_of_ble_eq_true rfl) lo_X12_3 wd_oi wd_oc ?_
  refine q_aln dX12_init_4 rfl ?_
  refine q_sp (v := nI 160) dX12_init_5 rfl ?_
  refine h_newI 160 dX12_init_8 (by decide) (by decide) (by decide) hF0 ?_
  have hG0 := hF0
  have hF1 := hF0.up (t' := (sk ++ [(100, 160)]).length) sk_le
  refine h_putR dX12_init_10 (fw_X12_9 rfl rfl) (sk_o hs) (Or.inr ⟨_, rfl⟩) ?_
  have hF2 := hF1.p (j := 1) (v := sk.length) (sk_l (sk_o hs))
  refine q_aln dX12_init_13 rfl ?_
  refine q_sp (v := nI 1700) dX12_init_14 rfl ?_
  refine h_newI 1700 dX12_init_17 (by decide) (by decide) (by decide) hF2 ?_
  have hG2 := hF2
  have hF3 := hF2.up (t' := ((sk ++ [(100, 160)]) ++ [(100, 1700)]).length) sk_le
  refine h_putR dX12_init_19 (fw_X12_13 rfl rfl) (sk_o (sk_o hs)) (Or.inr ⟨_, rfl⟩) ?_
  have hF4 := hF3.p (j := 6) (v := (sk ++ [(100, 160)]).length) (sk_l (sk_o (sk_o hs)))
  refine q_aln dX12_init_22 rfl ?_
  refine q_sp (v := nI 1700) dX12_init_23 rfl ?_
  refine h_newI 1700 dX12_init_26 (by decide) (by decide) (by decide) hF4 ?_
  have hG4 := hF4
  have hF5 := hF4.up (t' := (((sk ++ [(100, 160)]) ++ [(100, 1700)]) ++ [(100, 1700)]).length) sk_le
  refine h_putR dX12_init_28 (fw_X12_16 rfl rfl) (sk_o (sk_o (sk_o hs))) (Or.inr ⟨_, rfl⟩) ?_
  have hF6 := hF5.p (j := 7) (v := ((sk ++ [(100, 160)]) ++ [(100, 1700)]).length) (sk_l (sk_o (sk_o (sk_o hs))))
  refine q_aln dX12_init_31 rfl ?_
  refine q_ic (v := nI 5) dX12_init_32 rfl ?_
  refine h_newI 5 dX12_init_33 (by decide) (by decide) (by decide) hF6 ?_
  have hG6 := hF6
  have hF7 := hF6.up (t' := ((((sk ++ [(100, 160)]) ++ [(100, 1700)]) ++ [(100, 1700)]) ++ [(100, 5)]).length) sk_le
  refine h_putR dX12_init_35 (fw_X12_19 rfl rfl) (sk_o (sk_o (sk_o (sk_o hs)))) (Or.inr ⟨_, rfl⟩) ?_
  have hF8 := hF7.p (j := 8) (v := (((sk ++ [(100, 160)]) ++ [(100, 1700)]) ++ [(100, 1700)]).length) (sk_l (sk_o (sk_o (sk_o (sk_o hs)))))
  refine q_aln dX12_init_38 rfl ?_
  refine q_ic (v := nI 5) dX12_init_39 rfl ?_
  refine h_newI 5 dX12_init_40 (by decide) (by decide) (by decide) hF8 ?_
  have hG8 := hF8
  have hF9 := hF8.up (t' := (((((sk ++ [(100, 160)]) ++ [(100, 1700)]) ++ [(100, 1700)]) ++ [(100, 5)]) ++ [(100, 5)]).length) sk_le
  refine h_putR dX12_init_42 (fw_X12_22 rfl rfl) (sk_o (sk_o (sk_o (sk_o (sk_o hs))))) (Or.inr ⟨_, rfl⟩) ?_
  have hF10 := hF9.p (j := 9) (v := ((((sk ++ [(100, 160)]) ++ [(100, 1700)]) ++ [(100, 1700)]) ++ [(100, 5)]).length) (sk_l (sk_o (sk_o (sk_o (sk_o (sk_o hs))))))
  refine q_aln dX12_init_45 rfl ?_
  refine q_sp (v := nI 450) dX12_init_46 rfl ?_
  refine h_newI 450 dX12_init_49 (by decide) (by decide) (by decide) hF10 ?_
  have hG10 := hF10
  have hF11 := hF10.up (t' := ((((((sk ++ [(100, 160)]) ++ [(100, 1700)]) ++ [(100, 1700)]) ++ [(100, 5)]) ++ [(100, 5)]) ++ [(100, 450)]).length) sk_le
  refine h_putR dX12_init_51 (fw_X12_25 rfl rfl) (sk_o (sk_o (sk_o (sk_o (sk_o (sk_o hs)))))) (Or.inr ⟨_, rfl⟩) ?_
  have hF12 := hF11.p (j := 10) (v := (((((sk ++ [(100, 160)]) ++ [(100, 1700)]) ++ [(100, 1700)]) ++ [(100, 5)]) ++ [(100, 5)]).length) (sk_l (sk_o (sk_o (sk_o (sk_o (sk_o (sk_o hs)))))))
  refine q_aln dX12_init_54 rfl ?_
  refine q_sp (v := nI 450) dX12_init_55 rfl ?_
  refine h_newI 450 dX12_init_58 (by decide) (by decide) (by decide) hF12 ?_
  have hG12 := hF12
  have hF13 := hF12.up (t' := (((((((sk ++ [(100, 160)]) ++ [(100, 1700)]) ++ [(100, 1700)]) ++ [(100, 5)]) ++ [(100, 5)]) ++ [(100, 450)]) ++ [(100, 450)]).length) sk_le
  refine h_putR dX12_init_60 (fw_X12_28 rfl rfl) (sk_o (sk_o (sk_o (sk_o (sk_o (sk_o (sk_o hs))))))) (Or.inr ⟨_, rfl⟩) ?_
  have hF14 := hF13.p (j := 11) (v := ((((((sk ++ [(100, 160)]) ++ [(100, 1700)]) ++ [(100, 1700)]) ++ [(100, 5)]) ++ [(100, 5)]) ++ [(100, 450)]).length) (sk_l (sk_o (sk_o (sk_o (sk_o (sk_o (sk_o (sk_o hs))))))))
  refine q_aln dX12_init_63 rfl ?_
  refine q_sp (v := nI 450) dX12_init_64 rfl ?_
  refine h_newI 450 dX12_init_67 (by decide) (by decide) (by decide) hF14 ?_
  have hG14 := hF14
  have hF15 := hF14.up (t' := ((((((((sk ++ [(100, 160)]) ++ [(100, 1700)]) ++ [(100, 1700)]) ++ [(100, 5)]) ++ [(100, 5)]) ++ [(100, 450)]) ++ [(100, 450)]) ++ [(100, 450)]).length) sk_le
  refine h_putR dX12_init_69 (fw_X12_31 rfl rfl) (sk_o (sk_o (sk_o (sk_o (sk_o (sk_o (sk_o (sk_o hs)))))))) (Or.inr ⟨_, rfl⟩) ?_
  have hF16 := hF15.p (j := 12) (v := (((((((sk ++ [(100, 160)]) ++ [(100, 1700)]) ++ [(100, 1700)]) ++ [(100, 5)]) ++ [(100, 5)]) ++ [(100, 450)]) ++ [(100, 450)]).length) (sk_l (sk_o (sk_o (sk_o (sk_o (sk_o (sk_o (sk_o (sk_o hs)))))))))
  refine q_aln dX12_init_72 rfl ?_
  refine q_bp (v := nI 6) dX12_init_73 rfl ?_
  refine h_newI 6 dX12_init_75 (by decide) (by decide) (by decide) hF16 ?_
  have hG16 := hF16
  have hF17 := hF16.up (t' := (((((((((sk ++ [(100, 160)]) ++ [(100, 1700)]) ++ [(100, 1700)]) ++ [(100, 5)]) ++ [(100, 5)]) ++ [(100, 450)]) ++ [(100, 450)]) ++ [(100, 450)]) ++ [(100, 6)]).length) sk_le
  refine h_putR dX12_init_77 (fw_X12_34 rfl rfl) (sk_o (sk_o (sk_o (sk_o (sk_o (sk_o (sk_o (sk_o (sk_o hs))))))))) (Or.inr ⟨_, rfl⟩) ?_
  have hF18 := hF17.p (j := 15) (v := ((((((((sk ++ [(100, 160)]) ++ [(100, 1700)]) ++ [(100, 1700)]) ++ [(100, 5)]) ++ [(100, 5)]) ++ [(100, 450)]) ++ [(100, 450)]) ++ [(100, 450)]).length) (sk_l (sk_o (sk_o (sk_o (sk_o (sk_o (sk_o (sk_o (sk_o (sk_o hs))))))))))
  refine q_aln dX12_init_80 rfl ?_
  refine q_bp (v := nI 80) dX12_init_81 rfl ?_
  refine h_newI 80 dX12_init_83 (by decide) (by decide) (by decide) hF18 ?_
  have hG18 := hF18
  have hF19 := hF18.up (t' := ((((((((((sk ++ [(100, 160)]) ++ [(100, 1700)]) ++ [(100, 1700)]) ++ [(100, 5)]) ++ [(100, 5)]) ++ [(100, 450)]) ++ [(100, 450)]) ++ [(100, 450)]) ++ [(100, 6)]) ++ [(100, 80)]).length) sk_le
  refine h_putR dX12_init_85 (fw_X12_37 rfl rfl) (sk_o (sk_o (sk_o (sk_o (sk_o (sk_o (sk_o (sk_o (sk_o (sk_o hs)))))))))) (Or.inr ⟨_, rfl⟩) ?_
  have hF20 := hF19.p (j := 16) (v := (((((((((sk ++ [(100, 160)]) ++ [(100, 1700)]) ++ [(100, 1700)]) ++ [(100, 5)]) ++ [(100, 5)]) ++ [(100, 450)]) ++ [(100, 450)]) ++ [(100, 450)]) ++ [(100, 6)]).length) (sk_l (sk_o (sk_o (sk_o (sk_o (sk_o (sk_o (sk_o (sk_o (sk_o (sk_o hs)))))))))))
  refine q_aln dX12_init_88 rfl ?_
  refine q_bp (v := nI 49) dX12_init_89 rfl ?_
  refine h_newI 49 dX12_init_91 (by decide) (by decide) (by decide) hF20 ?_
  have hG20 := hF20
  have hF21 := hF20.up (t' := (((((((((((sk ++ [(100, 160)]) ++ [(100, 1700)]) ++ [(100, 1700)]) ++ [(100, 5)]) ++ [(100, 5)]) ++ [(100, 450)]) ++ [(100, 450)]) ++ [(100, 450)]) ++ [(100, 6)]) ++ [(100, 80)]) ++ [(100, 49)]).length) sk_le
  refine h_putR dX12_init_93 (fw_X12_40 rfl rfl) (sk_o (sk_o (sk_o (sk_o (sk_o (sk_o (sk_o (sk_o (sk_o (sk_o (sk_o hs))))))))))) (Or.inr ⟨_, rfl⟩) ?_
  have hF22 := hF21.p (j := 17) (v := ((((((((((sk ++ [(100, 160)]) ++ [(100, 1700)]) ++ [(100, 1700)]) ++ [(100, 5)]) ++ [(100, 5)]) ++ [(100, 450)]) ++ [(100, 450)]) ++ [(100, 450)]) ++ [(100, 6)]) ++ [(100, 80)]).length) (sk_l (sk_o (sk_o (sk_o (sk_o (sk_o (sk_o (sk_o (sk_o (sk_o (sk_o (sk_o hs))))))))))))
  refine q_aln dX12_init_96 rfl ?_
  refine q_bp (v := nI 49) dX12_init_97 rfl ?_
  refine h_newI 49 dX12_init_99 (by decide) (by decide) (by decide) hF22 ?_
  have hG22 := hF22
  have hF23 := hF22.up (t' := ((((((((((((sk ++ [(100, 160)]) ++ [(100, 1700)]) ++ [(100, 1700)]) ++ [(100, 5)]) ++ [(100, 5)]) ++ [(100, 450)]) ++ [(100, 450)]) ++ [(100, 450)]) ++ [(100, 6)]) ++ [(100, 80)]) ++ [(100, 49)]) ++ [(100, 49)]).length) sk_le
  refine h_putR dX12_init_101 (fw_X12_43 rfl rfl) (sk_o (sk_o (sk_o (sk_o (sk_o (sk_o (sk_o (sk_o (sk_o (sk_o (sk_o (sk_o hs)))))))))))) (Or.inr ⟨_, rfl⟩) ?_
  have hF24 := hF23.p (j := 20) (v := (((((((((((sk ++ [(100, 160)]) ++ [(100, 1700)]) ++ [(100, 1700)]) ++ [(100, 5)]) ++ [(100, 5)]) ++ [(100, 450)]) ++ [(100, 450)]) ++ [(100, 450)]) ++ [(100, 6)]) ++ [(100, 80)]) ++ [(100, 49)]).length) (sk_l (sk_o (sk_o (sk_o (sk_o (sk_o (sk_o (sk_o (sk_o (sk_o (sk_o (sk_o (sk_o hs)))))))))))))
  refine q_aln dX12_init_104 rfl ?_
  refine q_bp (v := nI 7) dX12_init_105 rfl ?_
  refine h_newI 7 dX12_init_107 (by decide) (by decide) (by decide) hF24 ?_
  have hG24 := hF24
  have hF25 := hF24.up (t' := (((((((((((((sk ++ [(100, 160)]) ++ [(100, 1700)]) ++ [(100, 1700)]) ++ [(100, 5)]) ++ [(100, 5)]) ++ [(100, 450)]) ++ [(100, 450)]) ++ [(100, 450)]) ++ [(100, 6)]) ++ [(100, 80)]) ++ [(100, 49)]) ++ [(100, 49)]) ++ [(100, 7)]).length) sk_le
  refine h_putR dX12_init_109 (fw_X12_46 rfl rfl) (sk_o (sk_o (sk_o (sk_o (sk_o (sk_o (sk_o (sk_o (sk_o (sk_o (sk_o (sk_o (sk_o hs))))))))))))) (Or.inr ⟨_, rfl⟩) ?_
  have hF26 := hF25.p (j := 23) (v := ((((((((((((sk ++ [(100, 160)]) ++ [(100, 1700)]) ++ [(100, 1700)]) ++ [(100, 5)]) ++ [(100, 5)]) ++ [(100, 450)]) ++ [(100, 450)]) ++ [(100, 450)]) ++ [(100, 6)]) ++ [(100, 80)]) ++ [(100, 49)]) ++ [(100, 49)]).length) (sk_l (sk_o (sk_o (sk_o (sk_o (sk_o (sk_o (sk_o (sk_o (sk_o (sk_o (sk_o (sk_o (sk_o hs))))))))))))))
  refine q_aln dX12_init_112 rfl ?_
  refine q_ic (v := -1) dX12_init_113 rfl ?_
  refine h_putI dX12_init_114 (fw_X12_49 rfl) (sk_o (sk_o (sk_o (sk_o (sk_o (sk_o (sk_o (sk_o (sk_o (sk_o (sk_o (sk_o (sk_o hs))))))))))))) rfl ?_
  have hF27 := hF26.i (j := 24) (v := -1) (sk_l (sk_o (sk_o (sk_o (sk_o (sk_o (sk_o (sk_o (sk_o (sk_o (sk_o (sk_o (sk_o (sk_o hs))))))))))))))
  refine q_aln dX12_init_117 rfl ?_
  refine q_bp (v := nI 8) dX12_init_118 rfl ?_
  refine h_newL 8 dX12_init_120 (by decide) (by decide) (by decide) hF27 ?_
  have hG27 := hF27
  have hF28 := hF27.up (t' := ((((((((((((((sk ++ [(100, 160)]) ++ [(100, 1700)]) ++ [(100, 1700)]) ++ [(100, 5)]) ++ [(100, 5)]) ++ [(100, 450)]) ++ [(100, 450)]) ++ [(100, 450)]) ++ [(100, 6)]) ++ [(100, 80)]) ++ [(100, 49)]) ++ [(100, 49)]) ++ [(100, 7)]) ++ [(101, 8)]).length) sk_le
  refine h_putR dX12_init_122 (fw_X12_53 rfl rfl) (sk_o (sk_o (sk_o (sk_o (sk_o (sk_o (sk_o (sk_o (sk_o (sk_o (sk_o (sk_o (sk_o (sk_o hs)))))))))))))) (Or.inr ⟨_, rfl⟩) ?_
  have hF29 := hF28.p (j := 29) (v := (((((((((((((sk ++ [(100, 160)]) ++ [(100, 1700)]) ++ [(100, 1700)]) ++ [(100, 5)]) ++ [(100, 5)]) ++ [(100, 450)]) ++ [(100, 450)]) ++ [(100, 450)]) ++ [(100, 6)]) ++ [(100, 80)]) ++ [(100, 49)]) ++ [(100, 49)]) ++ [(100, 7)]).length) (sk_l (sk_o (sk_o (sk_o (sk_o (sk_o (sk_o (sk_o (sk_o (sk_o (sk_o (sk_o (sk_o (sk_o (sk_o hs)))))))))))))))
  refine q_aln dX12_init_125 rfl ?_
  refine q_bp (v := nI 7) dX12_init_126 rfl ?_
  refine h_newI 7 dX12_init_128 (by decide) (by decide) (by decide) hF29 ?_
  have hG29 := hF29
  have hF30 := hF29.up (t' := (((((((((((((((sk ++ [(100, 160)]) ++ [(100, 1700)]) ++ [(100, 1700)]) ++ [(100, 5)]) ++ [(100, 5)]) ++ [(100, 450)]) ++ [(100, 450)]) ++ [(100, 450)]) ++ [(100, 6)]) ++ [(100, 80)]) ++ [(100, 49)]) ++ [(100, 49)]) ++ [(100, 7)]) ++ [(101, 8)]) ++ [(100, 7)]).length) sk_le
  refine h_putR dX12_init_130 (fw_X12_57 rfl rfl) (sk_o (sk_o (sk_o (sk_o (sk_o (sk_o (sk_o (sk_o (sk_o (sk_o (sk_o (sk_o (sk_o (sk_o (sk_o hs))))))))))))))) (Or.inr ⟨_, rfl⟩) ?_
  have hF31 := hF30.p (j := 30) (v := ((((((((((((((sk ++ [(100, 160)]) ++ [(100, 1700)]) ++ [(100, 1700)]) ++ [(100, 5)]) ++ [(100, 5)]) ++ [(100, 450)]) ++ [(100, 450)]) ++ [(100, 450)]) ++ [(100, 6)]) ++ [(100, 80)]) ++ [(100, 49)]) ++ [(100, 49)]) ++ [(100, 7)]) ++ [(101, 8)]).length) (sk_l (sk_o (sk_o (sk_o (sk_o (sk_o (sk_o (sk_o (sk_o (sk_o (sk_o (sk_o (sk_o (sk_o (sk_o (sk_o hs))))))))))))))))
  refine q_aln dX12_init_133 rfl ?_
  refine q_sp (v := nI 5040) dX12_init_134 rfl ?_
  refine h_newI 5040 dX12_init_137 (by decide) (by decide) (by decide) hF31 ?_
  have hG31 := hF31
  have hF32 := hF31.up (t' := ((((((((((((((((sk ++ [(100, 160)]) ++ [(100, 1700)]) ++ [(100, 1700)]) ++ [(100, 5)]) ++ [(100, 5)]) ++ [(100, 450)]) ++ [(100, 450)]) ++ [(100, 450)]) ++ [(100, 6)]) ++ [(100, 80)]) ++ [(100, 49)]) ++ [(100, 49)]) ++ [(100, 7)]) ++ [(101, 8)]) ++ [(100, 7)]) ++ [(100, 5040)]).length) sk_le
  refine h_putR dX12_init_139 (fw_X12_60 rfl rfl) (sk_o (sk_o (sk_o (sk_o (sk_o (sk_o (sk_o (sk_o (sk_o (sk_o (sk_o (sk_o (sk_o (sk_o (sk_o (sk_o hs)))))))))))))))) (Or.inr ⟨_, rfl⟩) ?_
  have hF33 := hF32.p (j := 31) (v := (((((((((((((((sk ++ [(100, 160)]) ++ [(100, 1700)]) ++ [(100, 1700)]) ++ [(100, 5)]) ++ [(100, 5)]) ++ [(100, 450)]) ++ [(100, 450)]) ++ [(100, 450)]) ++ [(100, 6)]) ++ [(100, 80)]) ++ [(100, 49)]) ++ [(100, 49)]) ++ [(100, 7)]) ++ [(101, 8)]) ++ [(100, 7)]).length) (sk_l (sk_o (sk_o (sk_o (sk_o (sk_o (sk_o (sk_o (sk_o (sk_o (sk_o (sk_o (sk_o (sk_o (sk_o (sk_o (sk_o hs)))))))))))))))))
  refine q_aln dX12_init_142 rfl ?_
  refine q_sp (v := nI 5040) dX12_init_143 rfl ?_
  refine h_newI 5040 dX12_init_146 (by decide) (by decide) (by decide) hF33 ?_
  have hG33 := hF33
  have hF34 := hF33.up (t' := (((((((((((((((((sk ++ [(100, 160)]) ++ [(100, 1700)]) ++ [(100, 1700)]) ++ [(100, 5)]) ++ [(100, 5)]) ++ [(100, 450)]) ++ [(100, 450)]) ++ [(100, 450)]) ++ [(100, 6)]) ++ [(100, 80)]) ++ [(100, 49)]) ++ [(100, 49)]) ++ [(100, 7)]) ++ [(101, 8)]) ++ [(100, 7)]) ++ [(100, 5040)]) ++ [(100, 5040)]).length) sk_le
  refine h_putR dX12_init_148 (fw_X12_63 rfl rfl) (sk_o (sk_o (sk_o (sk_o (sk_o (sk_o (sk_o (sk_o (sk_o (sk_o (sk_o (sk_o (sk_o (sk_o (sk_o (sk_o (sk_o hs))))))))))))))))) (Or.inr ⟨_, rfl⟩) ?_
  have hF35 := hF34.p (j := 32) (v := ((((((((((((((((sk ++ [(100, 160)]) ++ [(100, 1700)]) ++ [(100, 1700)]) ++ [(100, 5)]) ++ [(100, 5)]) ++ [(100, 450)]) ++ [(100, 450)]) ++ [(100, 450)]) ++ [(100, 6)]) ++ [(100, 80)]) ++ [(100, 49)]) ++ [(100, 49)]) ++ [(100, 7)]) ++ [(101, 8)]) ++ [(100, 7)]) ++ [(100, 5040)]).length) (sk_l (sk_o (sk_o (sk_o (sk_o (sk_o (sk_o (sk_o (sk_o (sk_o (sk_o (sk_o (sk_o (sk_o (sk_o (sk_o (sk_o (sk_o hs))))))))))))))))))
  refine q_aln dX12_init_151 rfl ?_
  refine q_bp (v := nI 20) dX12_init_152 rfl ?_
  refine h_newI 20 dX12_init_154 (by decide) (by decide) (by decide) hF35 ?_
  have hG35 := hF35
  have hF36 := hF35.up (t' := ((((((((((((((((((sk ++ [(100, 160)]) ++ [(100, 1700)]) ++ [(100, 1700)]) ++ [(100, 5)]) ++ [(100, 5)]) ++ [(100, 450)]) ++ [(100, 450)]) ++ [(100, 450)]) ++ [(100, 6)]) ++ [(100, 80)]) ++ [(100, 49)]) ++ [(100, 49)]) ++ [(100, 7)]) ++ [(101, 8)]) ++ [(100, 7)]) ++ [(100, 5040)]) ++ [(100, 5040)]) ++ [(100, 20)]).length) sk_le
  refine h_putR dX12_init_156 (fw_X12_66 rfl rfl) (sk_o (sk_o (sk_o (sk_o (sk_o (sk_o (sk_o (sk_o (sk_o (sk_o (sk_o (sk_o (sk_o (sk_o (sk_o (sk_o (sk_o (sk_o hs)))))))))))))))))) (Or.inr ⟨_, rfl⟩) ?_
  have hF37 := hF36.p (j := 34) (v := (((((((((((((((((sk ++ [(100, 160)]) ++ [(100, 1700)]) ++ [(100, 1700)]) ++ [(100, 5)]) ++ [(100, 5)]) ++ [(100, 450)]) ++ [(100, 450)]) ++ [(100, 450)]) ++ [(100, 6)]) ++ [(100, 80)]) ++ [(100, 49)]) ++ [(100, 49)]) ++ [(100, 7)]) ++ [(101, 8)]) ++ [(100, 7)]) ++ [(100, 5040)]) ++ [(100, 5040)]).length) (sk_l (sk_o (sk_o (sk_o (sk_o (sk_o (sk_o (sk_o (sk_o (sk_o (sk_o (sk_o (sk_o (sk_o (sk_o (sk_o (sk_o (sk_o (sk_o hs)))))))))))))))))))
  refine q_aln dX12_init_159 rfl ?_
  refine q_bp (v := nI 20) dX12_init_160 rfl ?_
  refine h_newZ 20 dX12_init_162 (by decide) (by decide) (by decide) hF37 ?_
  have hG37 := hF37
  have hF38 := hF37.up (t' := (((((((((((((((((((sk ++ [(100, 160)]) ++ [(100, 1700)]) ++ [(100, 1700)]) ++ [(100, 5)]) ++ [(100, 5)]) ++ [(100, 450)]) ++ [(100, 450)]) ++ [(100, 450)]) ++ [(100, 6)]) ++ [(100, 80)]) ++ [(100, 49)]) ++ [(100, 49)]) ++ [(100, 7)]) ++ [(101, 8)]) ++ [(100, 7)]) ++ [(100, 5040)]) ++ [(100, 5040)]) ++ [(100, 20)]) ++ [(102, 20)]).length) sk_le
  refine h_putR dX12_init_164 (fw_X12_69 rfl rfl) (sk_o (sk_o (sk_o (sk_o (sk_o (sk_o (sk_o (sk_o (sk_o (sk_o (sk_o (sk_o (sk_o (sk_o (sk_o (sk_o (sk_o (sk_o (sk_o hs))))))))))))))))))) (Or.inr ⟨_, rfl⟩) ?_
  have hF39 := hF38.p (j := 35) (v := ((((((((((((((((((sk ++ [(100, 160)]) ++ [(100, 1700)]) ++ [(100, 1700)]) ++ [(100, 5)]) ++ [(100, 5)]) ++ [(100, 450)]) ++ [(100, 450)]) ++ [(100, 450)]) ++ [(100, 6)]) ++ [(100, 80)]) ++ [(100, 49)]) ++ [(100, 49)]) ++ [(100, 7)]) ++ [(101, 8)]) ++ [(100, 7)]) ++ [(100, 5040)]) ++ [(100, 5040)]) ++ [(100, 20)]).length) (sk_l (sk_o (sk_o (sk_o (sk_o (sk_o (sk_o (sk_o (sk_o (sk_o (sk_o (sk_o (sk_o (sk_o (sk_o (sk_o (sk_o (sk_o (sk_o (sk_o hs))))))))))))))))))))
  refine q_aln dX12_init_167 rfl ?_
  refine q_bp (v := nI 7) dX12_init_168 rfl ?_
  refine h_newI 7 dX12_init_170 (by decide) (by decide) (by decide) hF39 ?_
  have hG39 := hF39
  have hF40 := hF39.up (t' := ((((((((((((((((((((sk ++ [(100, 160)]) ++ [(100, 1700)]) ++ [(100, 1700)]) ++ [(100, 5)]) ++ [(100, 5)]) ++ [(100, 450)]) ++ [(100, 450)]) ++ [(100, 450)]) ++ [(100, 6)]) ++ [(100, 80)]) ++ [(100, 49)]) ++ [(100, 49)]) ++ [(100, 7)]) ++ [(101, 8)]) ++ [(100, 7)]) ++ [(100, 5040)]) ++ [(100, 5040)]) ++ [(100, 20)]) ++ [(102, 20)]) ++ [(100, 7)]).length) sk_le
  refine h_putR dX12_init_172 (fw_X12_73 rfl rfl) (sk_o (sk_o (sk_o (sk_o (sk_o (sk_o (sk_o (sk_o (sk_o (sk_o (sk_o (sk_o (sk_o (sk_o (sk_o (sk_o (sk_o (sk_o (sk_o (sk_o hs)))))))))))))))))))) (Or.inr ⟨_, rfl⟩) ?_
  have hF41 := hF40.p (j := 37) (v := (((((((((((((((((((sk ++ [(100, 160)]) ++ [(100, 1700)]) ++ [(100, 1700)]) ++ [(100, 5)]) ++ [(100, 5)]) ++ [(100, 450)]) ++ [(100, 450)]) ++ [(100, 450)]) ++ [(100, 6)]) ++ [(100, 80)]) ++ [(100, 49)]) ++ [(100, 49)]) ++ [(100, 7)]) ++ [(101, 8)]) ++ [(100, 7)]) ++ [(100, 5040)]) ++ [(100, 5040)]) ++ [(100, 20)]) ++ [(102, 20)]).length) (sk_l (sk_o (sk_o (sk_o (sk_o (sk_o (sk_o (sk_o (sk_o (sk_o (sk_o (sk_o (sk_o (sk_o (sk_o (sk_o (sk_o (sk_o (sk_o (sk_o (sk_o hs)))))))))))))))))))))
  refine q_aln dX12_init_175 rfl ?_
  refine q_bp (v := nI 40) dX12_init_176 rfl ?_
  refine h_newI 40 dX12_init_178 (by decide) (by decide) (by decide) hF41 ?_
  have hG41 := hF41
  have hF42 := hF41.up (t' := (((((((((((((((((((((sk ++ [(100, 160)]) ++ [(100, 1700)]) ++ [(100, 1700)]) ++ [(100, 5)]) ++ [(100, 5)]) ++ [(100, 450)]) ++ [(100, 450)]) ++ [(100, 450)]) ++ [(100, 6)]) ++ [(100, 80)]) ++ [(100, 49)]) ++ [(100, 49)]) ++ [(100, 7)]) ++ [(101, 8)]) ++ [(100, 7)]) ++ [(100, 5040)]) ++ [(100, 5040)]) ++ [(100, 20)]) ++ [(102, 20)]) ++ [(100, 7)]) ++ [(100, 40)]).length) sk_le
  refine h_putR dX12_init_180 (fw_X12_76 rfl rfl) (sk_o (sk_o (sk_o (sk_o (sk_o (sk_o (sk_o (sk_o (sk_o (sk_o (sk_o (sk_o (sk_o (sk_o (sk_o (sk_o (sk_o (sk_o (sk_o (sk_o (sk_o hs))))))))))))))))))))) (Or.inr ⟨_, rfl⟩) ?_
  have hF43 := hF42.p (j := 38) (v := ((((((((((((((((((((sk ++ [(100, 160)]) ++ [(100, 1700)]) ++ [(100, 1700)]) ++ [(100, 5)]) ++ [(100, 5)]) ++ [(100, 450)]) ++ [(100, 450)]) ++ [(100, 450)]) ++ [(100, 6)]) ++ [(100, 80)]) ++ [(100, 49)]) ++ [(100, 49)]) ++ [(100, 7)]) ++ [(101, 8)]) ++ [(100, 7)]) ++ [(100, 5040)]) ++ [(100, 5040)]) ++ [(100, 20)]) ++ [(102, 20)]) ++ [(100, 7)]).length) (sk_l (sk_o (sk_o (sk_o (sk_o (sk_o (sk_o (sk_o (sk_o (sk_o (sk_o (sk_o (sk_o (sk_o (sk_o (sk_o (sk_o (sk_o (sk_o (sk_o (sk_o (sk_o hs))))))))))))))))))))))
  refine q_aln dX12_init_183 rfl ?_
  refine q_bp (v := nI 40) dX12_init_184 rfl ?_
  refine h_newZ 40 dX12_init_186 (by decide) (by decide) (by decide) hF43 ?_
  have hG43 := hF43
  have hF44 := hF43.up (t' := ((((((((((((((((((((((sk ++ [(100, 160)]) ++ [(100, 1700)]) ++ [(100, 1700)]) ++ [(100, 5)]) ++ [(100, 5)]) ++ [(100, 450)]) ++ [(100, 450)]) ++ [(100, 450)]) ++ [(100, 6)]) ++ [(100, 80)]) ++ [(100, 49)]) ++ [(100, 49)]) ++ [(100, 7)]) ++ [(101, 8)]) ++ [(100, 7)]) ++ [(100, 5040)]) ++ [(100, 5040)]) ++ [(100, 20)]) ++ [(102, 20)]) ++ [(100, 7)]) ++ [(100, 40)]) ++ [(102, 40)]).length) sk_le
  refine h_putR dX12_init_188 (fw_X12_79 rfl rfl) (sk_o (sk_o (sk_o (sk_o (sk_o (sk_o (sk_o (sk_o (sk_o (sk_o (sk_o (sk_o (sk_o (sk_o (sk_o (sk_o (sk_o (sk_o (sk_o (sk_o (sk_o (sk_o hs)))))))))))))))))))))) (Or.inr ⟨_, rfl⟩) ?_
  have hF45 := hF44.p (j := 39) (v := (((((((((((((((((((((sk ++ [(100, 160)]) ++ [(100, 1700)]) ++ [(100, 1700)]) ++ [(100, 5)]) ++ [(100, 5)]) ++ [(100, 450)]) ++ [(100, 450)]) ++ [(100, 450)]) ++ [(100, 6)]) ++ [(100, 80)]) ++ [(100, 49)]) ++ [(100, 49)]) ++ [(100, 7)]) ++ [(101, 8)]) ++ [(100, 7)]) ++ [(100, 5040)]) ++ [(100, 5040)]) ++ [(100, 20)]) ++ [(102, 20)]) ++ [(100, 7)]) ++ [(100, 40)]).length) (sk_l (sk_o (sk_o (sk_o (sk_o (sk_o (sk_o (sk_o (sk_o (sk_o (sk_o (sk_o (sk_o (sk_o (sk_o (sk_o (sk_o (sk_o (sk_o (sk_o (sk_o (sk_o (sk_o hs)))))))))))))))))))))))
  refine q_aln dX12_init_191 rfl ?_
  refine q_bp (v := nI 40) dX12_init_192 rfl ?_
  refine h_newL 40 dX12_init_194 (by decide) (by decide) (by decide) hF45 ?_
  have hG45 := hF45
  have hF46 := hF45.up (t' := (((((((((((((((((((((((sk ++ [(100, 160)]) ++ [(100, 1700)]) ++ [(100, 1700)]) ++ [(100, 5)]) ++ [(100, 5)]) ++ [(100, 450)]) ++ [(100, 450)]) ++ [(100, 450)]) ++ [(100, 6)]) ++ [(100, 80)]) ++ [(100, 49)]) ++ [(100, 49)]) ++ [(100, 7)]) ++ [(101, 8)]) ++ [(100, 7)]) ++ [(100, 5040)]) ++ [(100, 5040)]) ++ [(100, 20)]) ++ [(102, 20)]) ++ [(100, 7)]) ++ [(100, 40)]) ++ [(102, 40)]) ++ [(101, 40)]).length) sk_le
  refine h_putR dX12_init_196 (fw_X12_82 rfl rfl) (sk_o (sk_o (sk_o (sk_o (sk_o (sk_o (sk_o (sk_o (sk_o (sk_o (sk_o (sk_o (sk_o (sk_o (sk_o (sk_o (sk_o (sk_o (sk_o (sk_o (sk_o (sk_o (sk_o hs))))))))))))))))))))))) (Or.inr ⟨_, rfl⟩) ?_
  have hF47 := hF46.p (j := 40) (v := ((((((((((((((((((((((sk ++ [(100, 160)]) ++ [(100, 1700)]) ++ [(100, 1700)]) ++ [(100, 5)]) ++ [(100, 5)]) ++ [(100, 450)]) ++ [(100, 450)]) ++ [(100, 450)]) ++ [(100, 6)]) ++ [(100, 80)]) ++ [(100, 49)]) ++ [(100, 49)]) ++ [(100, 7)]) ++ [(101, 8)]) ++ [(100, 7)]) ++ [(100, 5040)]) ++ [(100, 5040)]) ++ [(100, 20)]) ++ [(102, 20)]) ++ [(100, 7)]) ++ [(100, 40)]) ++ [(102, 40)]).length) (sk_l (sk_o (sk_o (sk_o (sk_o (sk_o (sk_o (sk_o (sk_o (sk_o (sk_o (sk_o (sk_o (sk_o (sk_o (sk_o (sk_o (sk_o (sk_o (sk_o (sk_o (sk_o (sk_o (sk_o hs))))))))))))))))))))))))
  refine q_aln dX12_init_199 rfl ?_
  refine q_bp (v := nI 7) dX12_init_200 rfl ?_
  refine h_newI 7 dX12_init_202 (by decide) (by decide) (by decide) hF47 ?_
  have hG47 := hF47
  have hF48 := hF47.up (t' := ((((((((((((((((((((((((sk ++ [(100, 160)]) ++ [(100, 1700)]) ++ [(100, 1700)]) ++ [(100, 5)]) ++ [(100, 5)]) ++ [(100, 450)]) ++ [(100, 450)]) ++ [(100, 450)]) ++ [(100, 6)]) ++ [(100, 80)]) ++ [(100, 49)]) ++ [(100, 49)]) ++ [(100, 7)]) ++ [(101, 8)]) ++ [(100, 7)]) ++ [(100, 5040)]) ++ [(100, 5040)]) ++ [(100, 20)]) ++ [(102, 20)]) ++ [(100, 7)]) ++ [(100, 40)]) ++ [(102, 40)]) ++ [(101, 40)]) ++ [(100, 7)]).length) sk_le
  refine h_putR dX12_init_204 (fw_X12_85 rfl rfl) (sk_o (sk_o (sk_o (sk_o (sk_o (sk_o (sk_o (sk_o (sk_o (sk_o (sk_o (sk_o (sk_o (sk_o (sk_o (sk_o (sk_o (sk_o (sk_o (sk_o (sk_o (sk_o (sk_o (sk_o hs)))))))))))))))))))))))) (Or.inr ⟨_, rfl⟩) ?_
  have hF49 := hF48.p (j := 43) (v := (((((((((((((((((((((((sk ++ [(100, 160)]) ++ [(100, 1700)]) ++ [(100, 1700)]) ++ [(100, 5)]) ++ [(100, 5)]) ++ [(100, 450)]) ++ [(100, 450)]) ++ [(100, 450)]) ++ [(100, 6)]) ++ [(100, 80)]) ++ [(100, 49)]) ++ [(100, 49)]) ++ [(100, 7)]) ++ [(101, 8)]) ++ [(100, 7)]) ++ [(100, 5040)]) ++ [(100, 5040)]) ++ [(100, 20)]) ++ [(102, 20)]) ++ [(100, 7)]) ++ [(100, 40)]) ++ [(102, 40)]) ++ [(101, 40)]).length) (sk_l (sk_o (sk_o (sk_o (sk_o (sk_o (sk_o (sk_o (sk_o (sk_o (sk_o (sk_o (sk_o (sk_o (sk_o (sk_o (sk_o (sk_o (sk_o (sk_o (sk_o (sk_o (sk_o (sk_o (sk_o hs)))))))))))))))))))))))))
  refine q_aln dX12_init_207 rfl ?_
  refine q_bp (v := nI 14) dX12_init_208 rfl ?_
  refine h_newI 14 dX12_init_210 (by decide) (by decide) (by decide) hF49 ?_
  have hG49 := hF49
  have hF50 := hF49.up (t' := (((((((((((((((((((((((((sk ++ [(100, 160)]) ++ [(100, 1700)]) ++ [(100, 1700)]) ++ [(100, 5)]) ++ [(100, 5)]) ++ [(100, 450)]) ++ [(100, 450)]) ++ [(100, 450)]) ++ [(100, 6)]) ++ [(100, 80)]) ++ [(100, 49)]) ++ [(100, 49)]) ++ [(100, 7)]) ++ [(101, 8)]) ++ [(100, 7)]) ++ [(100, 5040)]) ++ [(100, 5040)]) ++ [(100, 20)]) ++ [(102, 20)]) ++ [(100, 7)]) ++ [(100, 40)]) ++ [(102, 40)]) ++ [(101, 40)]) ++ [(100, 7)]) ++ [(100, 14)]).length) sk_le
  refine h_putR dX12_init_212 (fw_X12_88 rfl rfl) (sk_o (sk_o (sk_o (sk_o (sk_o (sk_o (sk_o (sk_o (sk_o (sk_o (sk_o (sk_o (sk_o (sk_o (sk_o (sk_o (sk_o (sk_o (sk_o (sk_o (sk_o (sk_o (sk_o (sk_o (sk_o hs))))))))))))))))))))))))) (Or.inr ⟨_, rfl⟩) ?_
  have hF51 := hF50.p (j := 44) (v := ((((((((((((((((((((((((sk ++ [(100, 160)]) ++ [(100, 1700)]) ++ [(100, 1700)]) ++ [(100, 5)]) ++ [(100, 5)]) ++ [(100, 450)]) ++ [(100, 450)]) ++ [(100, 450)]) ++ [(100, 6)]) ++ [(100, 80)]) ++ [(100, 49)]) ++ [(100, 49)]) ++ [(100, 7)]) ++ [(101, 8)]) ++ [(100, 7)]) ++ [(100, 5040)]) ++ [(100, 5040)]) ++ [(100, 20)]) ++ [(102, 20)]) ++ [(100, 7)]) ++ [(100, 40)]) ++ [(102, 40)]) ++ [(101, 40)]) ++ [(100, 7)]).length) (sk_l (sk_o (sk_o (sk_o (sk_o (sk_o (sk_o (sk_o (sk_o (sk_o (sk_o (sk_o (sk_o (sk_o (sk_o (sk_o (sk_o (sk_o (sk_o (sk_o (sk_o (sk_o (sk_o (sk_o (sk_o (sk_o hs))))))))))))))))))))))))))
  refine q_aln dX12_init_215 rfl ?_
  refine q_bp (v := nI 40) dX12_init_216 rfl ?_
  refine h_newI 40 dX12_init_218 (by decide) (by decide) (by decide) hF51 ?_
  have hG51 := hF51
  have hF52 := hF51.up (t' := ((((((((((((((((((((((((((sk ++ [(100, 160)]) ++ [(100, 1700)]) ++ [(100, 1700)]) ++ [(100, 5)]) ++ [(100, 5)]) ++ [(100, 450)]) ++ [(100, 450)]) ++ [(100, 450)]) ++ [(100, 6)]) ++ [(100, 80)]) ++ [(100, 49)]) ++ [(100, 49)]) ++ [(100, 7)]) ++ [(101, 8)]) ++ [(100, 7)]) ++ [(100, 5040)]) ++ [(100, 5040)]) ++ [(100, 20)]) ++ [(102, 20)]) ++ [(100, 7)]) ++ [(100, 40)]) ++ [(102, 40)]) ++ [(101, 40)]) ++ [(100, 7)]) ++ [(100, 14)]) ++ [(100, 40)]).length) sk_le
  refine h_putR dX12_init_220 (fw_X12_91 rfl rfl) (sk_o (sk_o (sk_o (sk_o (sk_o (sk_o (sk_o (sk_o (sk_o (sk_o (sk_o (sk_o (sk_o (sk_o (sk_o (sk_o (sk_o (sk_o (sk_o (sk_o (sk_o (sk_o (sk_o (sk_o (sk_o (sk_o hs)))))))))))))))))))))))))) (Or.inr ⟨_, rfl⟩) ?_
  have hF53 := hF52.p (j := 45) (v := (((((((((((((((((((((((((sk ++ [(100, 160)]) ++ [(100, 1700)]) ++ [(100, 1700)]) ++ [(100, 5)]) ++ [(100, 5)]) ++ [(100, 450)]) ++ [(100, 450)]) ++ [(100, 450)]) ++ [(100, 6)]) ++ [(100, 80)]) ++ [(100, 49)]) ++ [(100, 49)]) ++ [(100, 7)]) ++ [(101, 8)]) ++ [(100, 7)]) ++ [(100, 5040)]) ++ [(100, 5040)]) ++ [(100, 20)]) ++ [(102, 20)]) ++ [(100, 7)]) ++ [(100, 40)]) ++ [(102, 40)]) ++ [(101, 40)]) ++ [(100, 7)]) ++ [(100, 14)]).length) (sk_l (sk_o (sk_o (sk_o (sk_o (sk_o (sk_o (sk_o (sk_o (sk_o (sk_o (sk_o (sk_o (sk_o (sk_o (sk_o (sk_o (sk_o (sk_o (sk_o (sk_o (sk_o (sk_o (sk_o (sk_o (sk_o (sk_o hs)))))))))))))))))))))))))))
  refine q_aln dX12_init_223 rfl ?_
  refine q_bp (v := nI 40) dX12_init_224 rfl ?_
  refine h_newZ 40 dX12_init_226 (by decide) (by decide) (by decide) hF53 ?_
  have hG53 := hF53
  have hF54 := hF53.up (t' := (((((((((((((((((((((((((((sk ++ [(100, 160)]) ++ [(100, 1700)]) ++ [(100, 1700)]) ++ [(100, 5)]) ++ [(100, 5)]) ++ [(100, 450)]) ++ [(100, 450)]) ++ [(100, 450)]) ++ [(100, 6)]) ++ [(100, 80)]) ++ [(100, 49)]) ++ [(100, 49)]) ++ [(100, 7)]) ++ [(101, 8)]) ++ [(100, 7)]) ++ [(100, 5040)]) ++ [(100, 5040)]) ++ [(100, 20)]) ++ [(102, 20)]) ++ [(100, 7)]) ++ [(100, 40)]) ++ [(102, 40)]) ++ [(101, 40)]) ++ [(100, 7)]) ++ [(100, 14)]) ++ [(100, 40)]) ++ [(102, 40)]).length) sk_le
  refine h_putR dX12_init_228 (fw_X12_94 rfl rfl) (sk_o (sk_o (sk_o (sk_o (sk_o (sk_o (sk_o (sk_o (sk_o (sk_o (sk_o (sk_o (sk_o (sk_o (sk_o (sk_o (sk_o (sk_o (sk_o (sk_o (sk_o (sk_o (sk_o (sk_o (sk_o (sk_o (sk_o hs))))))))))))))))))))))))))) (Or.inr ⟨_, rfl⟩) ?_
  have hF55 := hF54.p (j := 46) (v := ((((((((((((((((((((((((((sk ++ [(100, 160)]) ++ [(100, 1700)]) ++ [(100, 1700)]) ++ [(100, 5)]) ++ [(100, 5)]) ++ [(100, 450)]) ++ [(100, 450)]) ++ [(100, 450)]) ++ [(100, 6)]) ++ [(100, 80)]) ++ [(100, 49)]) ++ [(100, 49)]) ++ [(100, 7)]) ++ [(101, 8)]) ++ [(100, 7)]) ++ [(100, 5040)]) ++ [(100, 5040)]) ++ [(100, 20)]) ++ [(102, 20)]) ++ [(100, 7)]) ++ [(100, 40)]) ++ [(102, 40)]) ++ [(101, 40)]) ++ [(100, 7)]) ++ [(100, 14)]) ++ [(100, 40)]).length) (sk_l (sk_o (sk_o (sk_o (sk_o (sk_o (sk_o (sk_o (sk_o (sk_o (sk_o (sk_o (sk_o (sk_o (sk_o (sk_o (sk_o (sk_o (sk_o (sk_o (sk_o (sk_o (sk_o (sk_o (sk_o (sk_o (sk_o (sk_o hs))))))))))))))))))))))))))))
  refine q_aln dX12_init_231 rfl ?_
  refine q_bp (v := nI 40) dX12_init_232 rfl ?_
  refine h_newL 40 dX12_init_234 (by decide) (by decide) (by decide) hF55 ?_
  have hG55 := hF55
  have hF56 := hF55.up (t' := ((((((((((((((((((((((((((((sk ++ [(100, 160)]) ++ [(100, 1700)]) ++ [(100, 1700)]) ++ [(100, 5)]) ++ [(100, 5)]) ++ [(100, 450)]) ++ [(100, 450)]) ++ [(100, 450)]) ++ [(100, 6)]) ++ [(100, 80)]) ++ [(100, 49)]) ++ [(100, 49)]) ++ [(100, 7)]) ++ [(101, 8)]) ++ [(100, 7)]) ++ [(100, 5040)]) ++ [(100, 5040)]) ++ [(100, 20)]) ++ [(102, 20)]) ++ [(100, 7)]) ++ [(100, 40)]) ++ [(102, 40)]) ++ [(101, 40)]) ++ [(100, 7)]) ++ [(100, 14)]) ++ [(100, 40)]) ++ [(102, 40)]) ++ [(101, 40)]).length) sk_le
  refine h_putR dX12_init_236 (fw_X12_97 rfl rfl) (sk_o (sk_o (sk_o (sk_o (sk_o (sk_o (sk_o (sk_o (sk_o (sk_o (sk_o (sk_o (sk_o (sk_o (sk_o (sk_o (sk_o (sk_o (sk_o (sk_o (sk_o (sk_o (sk_o (sk_o (sk_o (sk_o (sk_o (sk_o hs)))))))))))))))))))))))))))) (Or.inr ⟨_, rfl⟩) ?_
  have hF57 := hF56.p (j := 47) (v := (((((((((((((((((((((((((((sk ++ [(100, 160)]) ++ [(100, 1700)]) ++ [(100, 1700)]) ++ [(100, 5)]) ++ [(100, 5)]) ++ [(100, 450)]) ++ [(100, 450)]) ++ [(100, 450)]) ++ [(100, 6)]) ++ [(100, 80)]) ++ [(100, 49)]) ++ [(100, 49)]) ++ [(100, 7)]) ++ [(101, 8)]) ++ [(100, 7)]) ++ [(100, 5040)]) ++ [(100, 5040)]) ++ [(100, 20)]) ++ [(102, 20)]) ++ [(100, 7)]) ++ [(100, 40)]) ++ [(102, 40)]) ++ [(101, 40)]) ++ [(100, 7)]) ++ [(100, 14)]) ++ [(100, 40)]) ++ [(102, 40)]).length) (sk_l (sk_o (sk_o (sk_o (sk_o (sk_o (sk_o (sk_o (sk_o (sk_o (sk_o (sk_o (sk_o (sk_o (sk_o (sk_o (sk_o (sk_o (sk_o (sk_o (sk_o (sk_o (sk_o (sk_o (sk_o (sk_o (sk_o (sk_o (sk_o hs)))))))))))))))))))))))))))))
  exact q_vr dX12_init_239 rfl rfl
