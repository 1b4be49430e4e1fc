/-! bytes of a number -/
def by8 (w : Int32) (j : Nat) : Nat := w.toBitVec.toNat / 2 ^ (24 - 8 * j) % 256
theorem by8_lt (w : Int32) (j : Nat) : by8 w j < 256 := Nat.mod_lt _ (by omega)
theorem bv255 (x : BitVec 32) (s : Nat) : (x >>> s) &&& 255#32 = BitVec.ofNat 32 (x.toNat / 2 ^ s % 256) := by
  apply BitVec.eq_of_toNat_eq
  rw [BitVec.toNat_and, BitVec.toNat_ushiftRight, BitVec.toNat_ofNat, BitVec.toNat_ofNat, Nat.shiftRight_eq_div_pow]
  rw [show 255 % 2 ^ 32 = 2 ^ 8 - 1 by decide, Nat.and_two_pow_sub_one_eq_mod]
  have : x.toNat / 2 ^ s % 256 < 256 := Nat.mod_lt _ (by omega)
  rw [Nat.mod_eq_of_lt (a := x.toNat / 2 ^ s % 256) (by omega)]
theorem bvs255 (x : BitVec 32) (s : Nat) (hs : s ≤ 24) : (x.sshiftRight s) &&& 255#32 = (x >>> s) &&& 255#32 := by
  apply BitVec.eq_of_getLsbD_eq
  intro i hi
  rw [BitVec.getLsbD_and, BitVec.getLsbD_and, BitVec.getLsbD_sshiftRight, BitVec.getLsbD_ushiftRight]
  by_cases h8 : i < 8
  · have h1 : ¬ 32 ≤ i := by omega
    have h2 : s + i < 32 := by omega
    simp [h1, h2]
  · have : (255#32).getLsbD i = false := by
      have e : (255#32).getLsbD i = Nat.testBit 255 i := by
        rw [BitVec.getLsbD_ofNat]; simp [hi]
      rw [e]
      exact Nat.testBit_lt_two_pow (Nat.lt_of_lt_of_le (show 255 < 2 ^ 8 by decide) (Nat.pow_le_pow_right (by omega) (by omega)))
    simp [this]
/-- the shift ahead of byte j -/
def shj (j : Nat) : Int32 := Int32.ofInt (24 - 8 * (j : Int))
theorem shj_n (j : Nat) : shj j + Int32.ofInt (-8) = shj (j + 1) := by
  unfold shj
  rw [← Int32.ofInt_add]
  congr 1
  omega
theorem by8_u (w : Int32) {j : Nat} (hj : j < 4) : (w.toUInt32 >>> ((shj j).toUInt32 &&& Int32.toUInt32 31)).toInt32 &&& nI 255 = nI (by8 w j) := by
  apply Int32.toBitVec_inj.mp
  rcases (show j = 0 ∨ j = 1 ∨ j = 2 ∨ j = 3 by omega) with rfl | rfl | rfl | rfl
  · rw [show ((shj 0).toUInt32 &&& Int32.toUInt32 31) = 24 by decide +kernel]
    exact bv255 w.toBitVec 24
  · rw [show ((shj 1).toUInt32 &&& Int32.toUInt32 31) = 16 by decide +kernel]
    exact bv255 w.toBitVec 16
  · rw [show ((shj 2).toUInt32 &&& Int32.toUInt32 31) = 8 by decide +kernel]
    exact bv255 w.toBitVec 8
  · rw [show ((shj 3).toUInt32 &&& Int32.toUInt32 31) = 0 by decide +kernel]
    exact bv255 w.toBitVec 0
theorem by8_s (w : Int32) {j : Nat} (hj : j < 4) : (w >>> (nI (24 - 8 * j) &&& 31)) &&& nI 255 = nI (by8 w j) := by
  apply Int32.toBitVec_inj.mp
  rcases (show j = 0 ∨ j = 1 ∨ j = 2 ∨ j = 3 by omega) with rfl | rfl | rfl | rfl
  · exact (bvs255 w.toBitVec 24 (by omega)).trans (bv255 w.toBitVec 24)
  · exact (bvs255 w.toBitVec 16 (by omega)).trans (bv255 w.toBitVec 16)
  · exact (bvs255 w.toBitVec 8 (by omega)).trans (bv255 w.toBitVec 8)
  · exact (bvs255 w.toBitVec 0 (by omega)).trans (bv255 w.toBitVec 0)
/-- the tape: how long, its bytes -/
def TP (r j a : Nat) (h : am_H) (tl : Nat) (tp : Nat → Nat) : Prop := am_i h r j = nI tl ∧ tl ≤ 160 ∧ ∀ i, i < tl → am_i h a i = nI (tp i) ∧ tp i < 256
theorem TP.fx {A : List Nat} {B : List (Nat × Nat)} {h h' : am_H} {r j x tl : Nat} {tp : Nat → Nat} (m : TP r j x h tl tp) (a : Fx A B h h') (ok : r ∉ A ∧ (r, j) ∉ B ∧ x ∉ A ∧ x ∉ B.map Prod.fst) : TP r j x h' tl tp := by
  unfold TP at m ⊢
  rw [a.i ok.1 ok.2.1, a.ia ok.2.2.1 ok.2.2.2]
  exact m
/-- bytes q behind a tape -/
def fl (q : Nat → Nat) (tl : Nat) : Nat → Nat
  | 0 => tl
  | k + 1 => if q k = 0 then fl q tl k else fl q tl k + 1
def fp (q : Nat → Nat) (tl : Nat) (tp : Nat → Nat) : Nat → Nat → Nat
  | 0 => tp
  | k + 1 => if q k = 0 then fp q tl tp k else up1 (fp q tl tp k) (fl q tl k) (q k)
theorem fl_ct {q : Nat → Nat} {tl : Nat} : ∀ k, fl q tl k = tl + ct (fun i => decide (q i ≠ 0)) k
  | 0 => rfl
  | k + 1 => by
    have ih := fl_ct (q := q) (tl := tl) k
    by_cases e : q k = 0
    · simp only [fl, e, if_true]; rw [ct_f (by simp [e])]; exact ih
    · simp only [fl]; rw [if_neg e, ct_t (by simp [e])]; omega
theorem TP.put {r j a : Nat} {h h2 : am_H} {tl v : Nat} {tp : Nat → Nat} (m : TP r j a h tl tp) (hl : tl < 160) (hv : v < 256) (h1 : am_i h2 r j = nI (tl + 1)) (h3 : ∀ i, am_i h2 a i = if i = tl then nI v else am_i h a i) : TP r j a h2 (tl + 1) (up1 tp tl v) := by
  refine ⟨h1, by omega, fun i hi => ?_⟩
  rw [h3 i]
  by_cases e : i = tl
  · subst e; rw [if_pos rfl, up1_eq]; exact ⟨rfl, hv⟩
  · rw [if_neg e, up1_ne e]; exact m.2.2 i (by omega)
theorem ct_add {p : Nat → Bool} (a : Nat) : ∀ k, ct p (a + k) = ct p a + ct (fun i => p (a + i)) k
  | 0 => rfl
  | k + 1 => by rw [← Nat.add_assoc, ct, ct_add a k, ct]; omega
/-- one more word -/
theorem fl_w {q : Nat → Nat} {tl a : Nat} : ∀ k, fl q tl (a + k) = fl (fun i => q (a + i)) (fl q tl a) k
  | 0 => rfl
  | k + 1 => by rw [← Nat.add_assoc]; simp only [fl]; rw [fl_w k]
theorem fp_w {q : Nat → Nat} {tl a : Nat} {tp : Nat → Nat} : ∀ k, fp q tl tp (a + k) = fp (fun i => q (a + i)) (fl q tl a) (fp q tl tp a) k
  | 0 => rfl
  | k + 1 => by rw [← Nat.add_assoc]; simp only [fp]; rw [fp_w k, fl_w k]
/-- the twenty bytes of five words -/
def w5 (a b c d e : Int32) (k : Nat) : Int32 := if k < 4 then a else if k < 8 then b else if k < 12 then c else if k < 16 then d else e
def q20 (a b c d e : Int32) (k : Nat) : Nat := by8 (w5 a b c d e k) (k % 4)
theorem q20_w (a b c d e : Int32) (i : Nat) (hi : i < 4) : q20 a b c d e i = by8 a i ∧ q20 a b c d e (4 + i) = by8 b i ∧ q20 a b c d e (8 + i) = by8 c i ∧ q20 a b c d e (12 + i) = by8 d i ∧ q20 a b c d e (16 + i) = by8 e i := by
  unfold q20 w5
  refine ⟨?_, ?_, ?_, ?_, ?_⟩
  · rw [if_pos (by omega), show i % 4 = i by omega]
  · rw [if_neg (by omega), if_pos (by omega), show (4 + i) % 4 = i by omega]
  · rw [if_neg (by omega), if_neg (by omega), if_pos (by omega), show (8 + i) % 4 = i by omega]
  · rw [if_neg (by omega), if_neg (by omega), if_neg (by omega), if_pos (by omega), show (12 + i) % 4 = i by omega]
  · rw [if_neg (by omega), if_neg (by omega), if_neg (by omega), if_neg (by omega), show (16 + i) % 4 = i by omega]
theorem fl_cong {q q' : Nat → Nat} {tl : Nat} : ∀ {k : Nat}, (∀ i, i < k → q i = q' i) → fl q tl k = fl q' tl k
  | 0, _ => rfl
  | k + 1, h => by simp only [fl]; rw [fl_cong (fun i hi => h i (by omega)), h k (by omega)]
theorem fp_cong {q q' : Nat → Nat} {tl : Nat} {tp : Nat → Nat} : ∀ {k : Nat}, (∀ i, i < k → q i = q' i) → fp q tl tp k = fp q' tl tp k
  | 0, _ => rfl
  | k + 1, h => by simp only [fp]; rw [fp_cong (fun i hi => h i (by omega)), fl_cong (fun i hi => h i (by omega)), h k (by omega)]
theorem fl_mono {q : Nat → Nat} {tl : Nat} {a b : Nat} (h : a ≤ b) : fl q tl a ≤ fl q tl b := by
  rw [fl_ct, fl_ct]
  have := ct_mono (p := fun i => decide (q i ≠ 0)) h
  omega
