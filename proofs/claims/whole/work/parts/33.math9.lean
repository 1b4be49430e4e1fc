/-! finer frames: the cells of A, and single places of B, may have changed -/
def Fx (A : List Nat) (B : List (Nat × Nat)) (h h' : am_H) : Prop := h'.1 = h.1 ∧ h'.2.2.2 = h.2.2.2 ∧ ∀ r j, r ∉ A → (r, j) ∉ B → am_i h' r j = am_i h r j ∧ am_l h' r j = am_l h r j
theorem Fx.rf {A : List Nat} {B : List (Nat × Nat)} {h : am_H} : Fx A B h h := ⟨rfl, rfl, fun _ _ _ _ => ⟨rfl, rfl⟩⟩
theorem Fx.tr {A : List Nat} {B : List (Nat × Nat)} {h h1 h2 : am_H} (a : Fx A B h h1) (b : Fx A B h1 h2) : Fx A B h h2 := ⟨b.1.trans a.1, b.2.1.trans a.2.1, fun r j hr hb => ⟨((b.2.2 r j hr hb).1).trans (a.2.2 r j hr hb).1, ((b.2.2 r j hr hb).2).trans (a.2.2 r j hr hb).2⟩⟩
theorem Fx.mono {A A' : List Nat} {B B' : List (Nat × Nat)} {h h1 : am_H} (a : Fx A B h h1) (hA : ∀ r ∈ A, r ∈ A') (hB : ∀ q ∈ B, q.1 ∈ A' ∨ q ∈ B') : Fx A' B' h h1 := ⟨a.1, a.2.1, fun r j hr hb => a.2.2 r j (fun z => hr (hA r z)) (fun z => (hB (r, j) z).elim hr hb)⟩
theorem Fr.x {A : List Nat} {h h1 : am_H} (a : Fr A h h1) : Fx A [] h h1 := ⟨a.1, a.2.1, fun r j hr _ => ⟨congrFun (a.2.2.1 r hr) j, congrFun (a.2.2.2 r hr) j⟩⟩
theorem Fx.wI {A : List Nat} {B : List (Nat × Nat)} {h : am_H} {r j : Nat} {v : Int32} (hr : r ∈ A ∨ (r, j) ∈ B) : Fx A B h (am_wI h r j v) := by
  refine ⟨rfl, rfl, fun r' j' h1 h2 => ⟨?_, rfl⟩⟩
  by_cases e : r' = r
  · subst e
    rw [wI_eq, if_neg]
    intro z
    subst z
    exact hr.elim h1 h2
  · rw [wI_ne e]
theorem Fx.wL {A : List Nat} {B : List (Nat × Nat)} {h : am_H} {r j : Nat} {v : Int64} (hr : r ∈ A ∨ (r, j) ∈ B) : Fx A B h (am_wL h r j v) := by
  refine ⟨rfl, rfl, fun r' j' h1 h2 => ⟨rfl, ?_⟩⟩
  by_cases e : r' = r
  · subst e
    rw [wL_eq, if_neg]
    intro z
    subst z
    exact hr.elim h1 h2
  · rw [wL_ne e]
theorem Fx.rI {A : List Nat} {B : List (Nat × Nat)} {h : am_H} {r : Nat} {g : Nat → Int32} (hr : r ∈ A) : Fx A B h (am_rI h r g) := (Fr.rI hr).x.mono (fun _ z => z) (fun q hq => by simp at hq)
theorem Fx.rL {A : List Nat} {B : List (Nat × Nat)} {h : am_H} {r : Nat} {g : Nat → Int64} (hr : r ∈ A) : Fx A B h (am_rL h r g) := (Fr.rL hr).x.mono (fun _ z => z) (fun q hq => by simp at hq)
theorem Fx.i {A : List Nat} {B : List (Nat × Nat)} {h h' : am_H} (a : Fx A B h h') {r j : Nat} (hr : r ∉ A) (hb : (r, j) ∉ B) : am_i h' r j = am_i h r j := (a.2.2 r j hr hb).1
theorem Fx.l {A : List Nat} {B : List (Nat × Nat)} {h h' : am_H} (a : Fx A B h h') {r j : Nat} (hr : r ∉ A) (hb : (r, j) ∉ B) : am_l h' r j = am_l h r j := (a.2.2 r j hr hb).2
theorem Fx.ia {A : List Nat} {B : List (Nat × Nat)} {h h' : am_H} (a : Fx A B h h') {r : Nat} (hr : r ∉ A) (hb : r ∉ B.map Prod.fst) : am_i h' r = am_i h r := funext (fun j => a.i hr (fun z => hb (List.mem_map.mpr ⟨(r, j), z, rfl⟩)))
theorem Fx.la {A : List Nat} {B : List (Nat × Nat)} {h h' : am_H} (a : Fx A B h h') {r : Nat} (hr : r ∉ A) (hb : r ∉ B.map Prod.fst) : am_l h' r = am_l h r := funext (fun j => a.l hr (fun z => hb (List.mem_map.mpr ⟨(r, j), z, rfl⟩)))
theorem Fx.Wd {A : List Nat} {B : List (Nat × Nat)} {h h' : am_H} (a : Fx A B h h') (hW : Wd h) : Wd h' := by
  refine ⟨fun r hr => ?_, fun q hq => ?_⟩
  · show h'.1 r = _
    rw [a.1]
    exact hW.1 r hr
  · show h'.2.2.2.1 q.1 q.2.1 = _
    rw [a.2.1]
    exact hW.2 q hq
theorem MB.fx {A : List Nat} {B : List (Nat × Nat)} {h h' : am_H} {n : Nat} {g : Bool} {F : Nat → Nat → Nat} (m : MB h n g F) (a : Fx A B h h') (ok : 9 ∉ A ∧ 10 ∉ A ∧ (9, 0) ∉ B ∧ (9, 1) ∉ B ∧ 10 ∉ B.map Prod.fst) : MB h' n g F := by
  unfold MB at m ⊢
  rw [a.i ok.1 ok.2.2.1, a.i ok.1 ok.2.2.2.1, a.ia ok.2.1 ok.2.2.2.2]
  exact m
theorem SB.fx {A : List Nat} {B : List (Nat × Nat)} {h h' : am_H} {r x y n : Nat} {S T : Nat → Nat} (m : SB r x y h n S T) (a : Fx A B h h') (ok : r ∉ A ∧ x ∉ A ∧ y ∉ A ∧ (r, 0) ∉ B ∧ x ∉ B.map Prod.fst ∧ y ∉ B.map Prod.fst) : SB r x y h' n S T := by
  unfold SB at m ⊢
  rw [a.i ok.1 ok.2.2.2.1, a.ia ok.2.1 ok.2.2.2.2.1, a.ia ok.2.2.1 ok.2.2.2.2.2]
  exact m
theorem RB.fx {A : List Nat} {B : List (Nat × Nat)} {h h' : am_H} {n : Nat} {g : Bool} {F : Nat → Nat → Nat} {S T : Nat → Nat} (m : RB h n g F S T) (a : Fx A B h h') (ok : 50 ∉ A ∧ 62 ∉ A ∧ 63 ∉ A ∧ (50, 21) ∉ B ∧ (50, 22) ∉ B ∧ 62 ∉ B.map Prod.fst ∧ 63 ∉ B.map Prod.fst) : RB h' n g F S T := by
  unfold RB at m ⊢
  rw [a.i ok.1 ok.2.2.2.1, a.i ok.1 ok.2.2.2.2.1, a.ia ok.2.1 ok.2.2.2.2.2.1, a.ia ok.2.2.1 ok.2.2.2.2.2.2]
  exact m
/-! sittings: held, yes, passed, draws ahead, draws -/
def TB (r j0 j1 a b c : Nat) (h : am_H) (hd : Nat) (y : Nat → Nat) (p : Nat → Bool) (st : Nat → Int64) (dr : Int64) : Prop := am_i h r j0 = nI hd ∧ hd ≤ 40 ∧ am_l h r j1 = dr ∧ ∀ k, k < hd → am_i h a k = nI (y k) ∧ y k ≤ 7 ∧ am_i h b k = nI (if p k = true then 1 else 0) ∧ am_l h c k = st k
theorem TB.fx {A : List Nat} {B : List (Nat × Nat)} {h h' : am_H} {r j0 j1 x y z hd : Nat} {ys : Nat → Nat} {p : Nat → Bool} {st : Nat → Int64} {dr : Int64} (m : TB r j0 j1 x y z h hd ys p st dr) (a : Fx A B h h') (ok : r ∉ A ∧ (r, j0) ∉ B ∧ (r, j1) ∉ B ∧ x ∉ A ∧ y ∉ A ∧ z ∉ A ∧ x ∉ B.map Prod.fst ∧ y ∉ B.map Prod.fst ∧ z ∉ B.map Prod.fst) : TB r j0 j1 x y z h' hd ys p st dr := by
  unfold TB at m ⊢
  rw [a.i ok.1 ok.2.1, a.l ok.1 ok.2.2.1, a.ia ok.2.2.2.1 ok.2.2.2.2.2.2.1, a.ia ok.2.2.2.2.1 ok.2.2.2.2.2.2.2.1, a.la ok.2.2.2.2.2.1 ok.2.2.2.2.2.2.2.2]
  exact m
def drw (s : Int64) : Int64 := s * 6364136223846793005 + 1442695040888963407
def dru (s : Int64) : Nat := (s.toUInt64 >>> 33).toNat
theorem dru_lt (s : Int64) : dru s < 2 ^ 31 := by
  unfold dru
  rw [UInt64.toNat_shiftRight, Nat.shiftRight_eq_div_pow]
  have := s.toUInt64.toNat_lt
  have e : (33 : UInt64).toNat % 64 = 33 := by decide
  rw [e]
  omega
theorem dru_eq (s : Int64) : (s.toUInt64 >>> ((nI 33).toInt64.toUInt64 &&& Int64.toUInt64 63)).toInt64 = lN (dru s) := by
  rw [show ((nI 33).toInt64.toUInt64 &&& Int64.toUInt64 63) = 33 by decide +kernel]
  apply Int64.toBitVec_inj.mp
  show (s.toUInt64 >>> 33).toBitVec = BitVec.ofNat 64 (s.toUInt64 >>> 33).toBitVec.toNat
  rw [BitVec.ofNat_toNat, BitVec.setWidth_eq]
theorem l2i_n {k : Nat} (h : k < 2 ^ 31) : (lN k).toInt32 = nI k := by
  apply Int32.toBitVec_inj.mp
  show ((BitVec.ofNat 64 k).signExtend 32) = BitVec.ofNat 32 k
  apply BitVec.eq_of_toNat_eq
  rw [BitVec.signExtend_eq_setWidth_of_le _ (by decide)]
  simp
def sg (n : Nat) (g : Bool) (F : Nat → Nat → Nat) (S T : Nat → Nat) (s0 : Int64) : Nat → Int64 × Nat
  | 0 => (s0, 0)
  | k + 1 => if hrd n g F S T k = true then (drw (sg n g F S T s0 k).1, (sg n g F S T s0 k).2 + (if (F 0 k = 1) ↔ (dru (drw (sg n g F S T s0 k).1) % 100 < slp F ((mth n g F S T k).getD 0)) then 0 else 1)) else sg n g F S T s0 k
theorem sg_y {n : Nat} {g : Bool} {F : Nat → Nat → Nat} {S T : Nat → Nat} {s0 : Int64} {k q : Nat} (h : hrd n g F S T k = true) (hq : mth n g F S T k = some q) : sg n g F S T s0 (k + 1) = (drw (sg n g F S T s0 k).1, (sg n g F S T s0 k).2 + (if (F 0 k = 1) ↔ (dru (drw (sg n g F S T s0 k).1) % 100 < slp F q) then 0 else 1)) := by
  simp only [sg, h, hq]
  rfl
theorem sg_n {n : Nat} {g : Bool} {F : Nat → Nat → Nat} {S T : Nat → Nat} {s0 : Int64} {k : Nat} (h : ¬ hrd n g F S T k = true) : sg n g F S T s0 (k + 1) = sg n g F S T s0 k := by simp [sg, h]
theorem sg_le {n : Nat} {g : Bool} {F : Nat → Nat → Nat} {S T : Nat → Nat} {s0 : Int64} : ∀ k, (sg n g F S T s0 k).2 ≤ k
  | 0 => Nat.le_refl _
  | k + 1 => by
    have ih := sg_le (n := n) (g := g) (F := F) (S := S) (T := T) (s0 := s0) k
    simp only [sg]
    split
    · dsimp only
      split <;> omega
    · omega
/-- one more at place k -/
def up1 {α : Type} (f : Nat → α) (k : Nat) (v : α) : Nat → α := fun i => if i = k then v else f i
theorem up1_eq {α : Type} {f : Nat → α} {k : Nat} {v : α} : up1 f k v k = v := if_pos rfl
theorem up1_ne {α : Type} {f : Nat → α} {k i : Nat} {v : α} (h : i ≠ k) : up1 f k v i = f i := if_neg h
theorem wLi {h : am_H} {r j : Nat} {v : Int64} : am_i (am_wL h r j v) = am_i h := rfl
theorem wIl {h : am_H} {r j : Nat} {v : Int32} : am_l (am_wI h r j v) = am_l h := rfl
