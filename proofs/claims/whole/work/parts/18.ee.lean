/-! the rows once more, with an end that is a condition on the answer and the heap -/
def am_E (d : Nat) (M : am_M) (pc : Nat) (l : List (Option Value)) (st : List Value) (h : am_H) (P : Option Value → am_H → Prop) : Prop := ∃ (v : Option Value) (h2 : am_H), am_Sem d M pc l st h (v, h2) ∧ P v h2
abbrev am_D (d : Nat) (N : am_M) (vs : List Value) (h : am_H) (P : Option Value → am_H → Prop) : Prop := am_E d N 0 (am_en N.2.2.1 vs) [] h P
theorem am_D.of {d : Nat} {N : am_M} {vs : List Value} {h h2 : am_H} {v : Option Value} {P : Option Value → am_H → Prop} (hc : am_C d N vs h (v, h2)) (hp : P v h2) : am_D d N vs h P := ⟨v, h2, hc, hp⟩
theorem am_E.mono {d : Nat} {M : am_M} {pc : Nat} {l : List (Option Value)} {st : List Value} {h : am_H} {P Q : Option Value → am_H → Prop} (k : am_E d M pc l st h P) (hq : ∀ v h2, P v h2 → Q v h2) : am_E d M pc l st h Q := by
  obtain ⟨v, h2, k1, k2⟩ := k
  exact ⟨v, h2, k1, hq v h2 k2⟩
section EE
variable {d : Nat} {M : am_M} {pc : Nat} {l : List (Option Value)} {st : List Value} {h : am_H} {Ps : Option Value → am_H → Prop}
theorem Eam_x_pu {st' : List Value} {i : Instr} {len : Nat} (hdec : decode M.2.1 pc = .ok (i, len)) (hp : am_pu i st = some (len, st')) (k : am_E d M (pc + len) l st' h Ps) : am_E d M pc l st h Ps := by
  obtain ⟨v2, hz2, k1, k2⟩ := k
  exact ⟨v2, hz2, am_x_pu hdec hp k1, k2⟩
theorem Eam_x_idiv {x y : Int32} (hdec : decode M.2.1 pc = .ok (.idiv, 1)) (hy : ¬ y = 0) (k : am_E d M (pc + 1) l (.int (x / y) :: st) h Ps) : am_E d M pc l (.int y :: .int x :: st) h Ps := by
  obtain ⟨v2, hz2, k1, k2⟩ := k
  exact ⟨v2, hz2, am_x_idiv hdec hy k1, k2⟩
theorem Eam_x_irem {x y : Int32} (hdec : decode M.2.1 pc = .ok (.irem, 1)) (hy : ¬ y = 0) (k : am_E d M (pc + 1) l (.int (x - x / y * y) :: st) h Ps) : am_E d M pc l (.int y :: .int x :: st) h Ps := by
  obtain ⟨v2, hz2, k1, k2⟩ := k
  exact ⟨v2, hz2, am_x_irem hdec hy k1, k2⟩
theorem Eam_x_ldiv {x y : Int64} (hdec : decode M.2.1 pc = .ok (.ldiv, 1)) (hy : ¬ y = 0) (k : am_E d M (pc + 1) l (.long (x / y) :: st) h Ps) : am_E d M pc l (.long y :: .long x :: st) h Ps := by
  obtain ⟨v2, hz2, k1, k2⟩ := k
  exact ⟨v2, hz2, am_x_ldiv hdec hy k1, k2⟩
theorem Eam_x_lrem {x y : Int64} (hdec : decode M.2.1 pc = .ok (.lrem, 1)) (hy : ¬ y = 0) (k : am_E d M (pc + 1) l (.long (x - x / y * y) :: st) h Ps) : am_E d M pc l (.long y :: .long x :: st) h Ps := by
  obtain ⟨v2, hz2, k1, k2⟩ := k
  exact ⟨v2, hz2, am_x_lrem hdec hy k1, k2⟩
theorem Eam_x_ld {v : Value} {i : Instr} {len x : Nat} (hdec : decode M.2.1 pc = .ok (i, len)) (hp : am_ld i v = some (x, len)) (hv : l[x]? = some (some v)) (k : am_E d M (pc + len) l (v :: st) h Ps) : am_E d M pc l st h Ps := by
  obtain ⟨v2, hz2, k1, k2⟩ := k
  exact ⟨v2, hz2, am_x_ld hdec hp hv k1, k2⟩
theorem Eam_x_so {v : Value} {i : Instr} {len x : Nat} (hdec : decode M.2.1 pc = .ok (i, len)) (hp : am_so i v = some (x, len)) (hn : x + 1 < M.2.2.1 + (if v.category = 2 then 0 else 1)) (k : am_E d M (pc + len) (am_sv l x v) st h Ps) : am_E d M pc l (v :: st) h Ps := by
  obtain ⟨v2, hz2, k1, k2⟩ := k
  exact ⟨v2, hz2, am_x_so hdec hp hn k1, k2⟩
theorem Eam_x_iinc {i : Nat} {n : Int} {x : Int32} (hdec : decode M.2.1 pc = .ok (.iinc i n, 3)) (hv : l[i]? = some (some (.int x))) (hn : i < M.2.2.1) (k : am_E d M (pc + 3) (am_s1 l i (.int (x + Int32.ofInt n))) st h Ps) : am_E d M pc l st h Ps := by
  obtain ⟨v2, hz2, k1, k2⟩ := k
  exact ⟨v2, hz2, am_x_iinc hdec hv hn k1, k2⟩
theorem Eam_x_goto {off : Int} {tgt : Nat} (hdec : decode M.2.1 pc = .ok (.goto off, 3)) (ht : (pc : Int) + off = (tgt : Int)) (k : am_E d M tgt l st h Ps) : am_E d M pc l st h Ps := by
  obtain ⟨v2, hz2, k1, k2⟩ := k
  exact ⟨v2, hz2, am_x_goto hdec ht k1, k2⟩
theorem Eam_x_nnR {x : Nat} {off : Int} {tgt : Nat} (hdec : decode M.2.1 pc = .ok (.ifnonnull off, 3)) (ht : (pc : Int) + off = (tgt : Int)) (k : am_E d M tgt l st h Ps) : am_E d M pc l (.ref x :: st) h Ps := by
  obtain ⟨v2, hz2, k1, k2⟩ := k
  exact ⟨v2, hz2, am_x_nnR hdec ht k1, k2⟩
theorem Eam_x_nnN {off : Int} (hdec : decode M.2.1 pc = .ok (.ifnonnull off, 3)) (k : am_E d M (pc + 3) l st h Ps) : am_E d M pc l (.null :: st) h Ps := by
  obtain ⟨v2, hz2, k1, k2⟩ := k
  exact ⟨v2, hz2, am_x_nnN hdec k1, k2⟩
theorem Eam_x_tOut {dflt lo hi : Int} {offs : Array Int} {len : Nat} {x : Int32} {tgt : Nat} (hdec : decode M.2.1 pc = .ok (.tableswitch dflt lo hi offs, len)) (hx : x.toInt < lo ∨ hi < x.toInt) (ht : (pc : Int) + dflt = (tgt : Int)) (k : am_E d M tgt l st h Ps) : am_E d M pc l (.int x :: st) h Ps := by
  obtain ⟨v2, hz2, k1, k2⟩ := k
  exact ⟨v2, hz2, am_x_tOut hdec hx ht k1, k2⟩
theorem Eam_x_tIn {dflt lo hi : Int} {offs : Array Int} {len : Nat} {x : Int32} {off : Int} {tgt : Nat} (hdec : decode M.2.1 pc = .ok (.tableswitch dflt lo hi offs, len)) (hx1 : ¬ x.toInt < lo) (hx2 : ¬ hi < x.toInt) (ho : offs[(x.toInt - lo).toNat]? = some off) (ht : (pc : Int) + off = (tgt : Int)) (k : am_E d M tgt l st h Ps) : am_E d M pc l (.int x :: st) h Ps := by
  obtain ⟨v2, hz2, k1, k2⟩ := k
  exact ⟨v2, hz2, am_x_tIn hdec hx1 hx2 ho ht k1, k2⟩
theorem Eam_x_lkp {dflt : Int} {ps : Array (Int × Int)} {len : Nat} {x : Int32} {off : Int} {tgt : Nat} (hdec : decode M.2.1 pc = .ok (.lookupswitch dflt ps, len)) (hp : (ps.toList.zip (ps.toList.drop 1)).all (fun (a, next) => a.1 < next.1) = true) (ho : Op.lookupswitch.offset ps.toList dflt x.toInt = off) (ht : (pc : Int) + off = (tgt : Int)) (k : am_E d M tgt l st h Ps) : am_E d M pc l (.int x :: st) h Ps := by
  obtain ⟨v2, hz2, k1, k2⟩ := k
  exact ⟨v2, hz2, am_x_lkp hdec hp ho ht k1, k2⟩
theorem Eam_x_ldc {idx : Nat} {v : Int32} (hdec : decode M.2.1 pc = .ok (.ldc idx, 2)) (hw : Jvm.Cond.constant M.1.cls idx v ∈ lw_tbl) (k : am_E d M (pc + 2) l (.int v :: st) h Ps) : am_E d M pc l st h Ps := by
  obtain ⟨v2, hz2, k1, k2⟩ := k
  exact ⟨v2, hz2, am_x_ldc hdec hw k1, k2⟩
theorem Eam_x_ldcw {idx : Nat} {v : Int32} (hdec : decode M.2.1 pc = .ok (.ldc_w idx, 3)) (hw : Jvm.Cond.constant M.1.cls idx v ∈ lw_tbl) (k : am_E d M (pc + 3) l (.int v :: st) h Ps) : am_E d M pc l st h Ps := by
  obtain ⟨v2, hz2, k1, k2⟩ := k
  exact ⟨v2, hz2, am_x_ldcw hdec hw k1, k2⟩
theorem Eam_x_ldc2 {idx : Nat} {v : Int64} (hdec : decode M.2.1 pc = .ok (.ldc2_w idx, 3)) (hw : Jvm.Cond.constantLong M.1.cls idx v ∈ lw_tbl) (k : am_E d M (pc + 3) l (.long v :: st) h Ps) : am_E d M pc l st h Ps := by
  obtain ⟨v2, hz2, k1, k2⟩ := k
  exact ⟨v2, hz2, am_x_ldc2 hdec hw k1, k2⟩
theorem Eam_x_get {idx k0 j r n : Nat} {v : Value} (hdec : decode M.2.1 pc = .ok (.getfield idx, 3)) (hf : am_fl M.1.cls idx k0 j) (hs : am_s h r = some (k0, n)) (hv : am_fa h k0 r j = v) (k : am_E d M (pc + 3) l (v :: st) h Ps) : am_E d M pc l (.ref r :: st) h Ps := by
  obtain ⟨v2, hz2, k1, k2⟩ := k
  exact ⟨v2, hz2, am_x_get hdec hf hs hv k1, k2⟩
theorem Eam_x_putI {idx k0 j r n : Nat} {v : Int32} (hdec : decode M.2.1 pc = .ok (.putfield idx, 3)) (hf : am_fw M.1 idx k0 j) (hs : am_s h r = some (k0, n)) (ht : am_ty k0 j = .int ∨ (am_ty k0 j = .boolean ∧ (v = 0 ∨ v = 1))) (k : am_E d M (pc + 3) l st (am_wI h r j v) Ps) : am_E d M pc l (.int v :: .ref r :: st) h Ps := by
  obtain ⟨v2, hz2, k1, k2⟩ := k
  exact ⟨v2, hz2, am_x_putI hdec hf hs ht k1, k2⟩
theorem Eam_x_putL {idx k0 j r n : Nat} {v : Int64} (hdec : decode M.2.1 pc = .ok (.putfield idx, 3)) (hf : am_fw M.1 idx k0 j) (hs : am_s h r = some (k0, n)) (ht : am_ty k0 j = .long) (k : am_E d M (pc + 3) l st (am_wL h r j v) Ps) : am_E d M pc l (.long v :: .ref r :: st) h Ps := by
  obtain ⟨v2, hz2, k1, k2⟩ := k
  exact ⟨v2, hz2, am_x_putL hdec hf hs ht k1, k2⟩
theorem Eam_x_putR {idx k0 j r n : Nat} {v : Option Nat} (hdec : decode M.2.1 pc = .ok (.putfield idx, 3)) (hf : am_fw M.1 idx k0 j) (hs : am_s h r = some (k0, n)) (ht : (∃ C, am_ty k0 j = .object C) ∨ ∃ t, am_ty k0 j = .array t) (k : am_E d M (pc + 3) l st (am_wP h r j v) Ps) : am_E d M pc l (am_rv v :: .ref r :: st) h Ps := by
  obtain ⟨v2, hz2, k1, k2⟩ := k
  exact ⟨v2, hz2, am_x_putR hdec hf hs ht k1, k2⟩
theorem Eam_x_gs {idx i : Nat} (hdec : decode M.2.1 pc = .ok (.getstatic idx, 3)) (hf : am_gs M.1.cls idx i) (k : am_E d M (pc + 3) l (.retAddr i :: st) h Ps) : am_E d M pc l st h Ps := by
  obtain ⟨v2, hz2, k1, k2⟩ := k
  exact ⟨v2, hz2, am_x_gs hdec hf k1, k2⟩
theorem Eam_x_sld {i : Nat} {x : Int32} (hdec : decode M.2.1 pc = .ok (.iaload, 1)) (hi : i < 4) (hin : vp_in x (am_sl i).length) (k : am_E d M (pc + 1) l (.int ((am_sl i).getD x.toNatClampNeg 0) :: st) h Ps) : am_E d M pc l (.int x :: .retAddr i :: st) h Ps := by
  obtain ⟨v2, hz2, k1, k2⟩ := k
  exact ⟨v2, hz2, am_x_sld hdec hi hin k1, k2⟩
theorem Eam_x_slen {i : Nat} (hdec : decode M.2.1 pc = .ok (.arraylength, 1)) (hi : i < 4) (k : am_E d M (pc + 1) l (.int (Int32.ofNat (am_sl i).length) :: st) h Ps) : am_E d M pc l (.retAddr i :: st) h Ps := by
  obtain ⟨v2, hz2, k1, k2⟩ := k
  exact ⟨v2, hz2, am_x_slen hdec hi k1, k2⟩
theorem Eam_x_alen {r k0 n : Nat} (hdec : decode M.2.1 pc = .ok (.arraylength, 1)) (hs : am_s h r = some (k0, n)) (hk : k0 = 100 ∨ k0 = 101 ∨ k0 = 102 ∨ k0 = 103) (k : am_E d M (pc + 1) l (.int (Int32.ofNat n) :: st) h Ps) : am_E d M pc l (.ref r :: st) h Ps := by
  obtain ⟨v2, hz2, k1, k2⟩ := k
  exact ⟨v2, hz2, am_x_alen hdec hs hk k1, k2⟩
theorem Eam_x_iald {r n : Nat} {x : Int32} (hdec : decode M.2.1 pc = .ok (.iaload, 1)) (hs : am_s h r = some (100, n)) (hin : vp_in x n) (k : am_E d M (pc + 1) l (.int (am_i h r x.toNatClampNeg) :: st) h Ps) : am_E d M pc l (.int x :: .ref r :: st) h Ps := by
  obtain ⟨v2, hz2, k1, k2⟩ := k
  exact ⟨v2, hz2, am_x_iald hdec hs hin k1, k2⟩
theorem Eam_x_lald {r n : Nat} {x : Int32} (hdec : decode M.2.1 pc = .ok (.laload, 1)) (hs : am_s h r = some (101, n)) (hin : vp_in x n) (k : am_E d M (pc + 1) l (.long (am_l h r x.toNatClampNeg) :: st) h Ps) : am_E d M pc l (.int x :: .ref r :: st) h Ps := by
  obtain ⟨v2, hz2, k1, k2⟩ := k
  exact ⟨v2, hz2, am_x_lald hdec hs hin k1, k2⟩
theorem Eam_x_zald {r n : Nat} {x : Int32} (hdec : decode M.2.1 pc = .ok (.baload, 1)) (hs : am_s h r = some (102, n)) (hin : vp_in x n) (k : am_E d M (pc + 1) l (.int (am_i h r x.toNatClampNeg) :: st) h Ps) : am_E d M pc l (.int x :: .ref r :: st) h Ps := by
  obtain ⟨v2, hz2, k1, k2⟩ := k
  exact ⟨v2, hz2, am_x_zald hdec hs hin k1, k2⟩
theorem Eam_x_qald {r n : Nat} {x : Int32} (hdec : decode M.2.1 pc = .ok (.aaload, 1)) (hs : am_s h r = some (103, n)) (hin : vp_in x n) (k : am_E d M (pc + 1) l (am_rv (am_p h r x.toNatClampNeg) :: st) h Ps) : am_E d M pc l (.int x :: .ref r :: st) h Ps := by
  obtain ⟨v2, hz2, k1, k2⟩ := k
  exact ⟨v2, hz2, am_x_qald hdec hs hin k1, k2⟩
theorem Eam_x_iast {r n : Nat} {x : Int32} {v : Int32} (hdec : decode M.2.1 pc = .ok (.iastore, 1)) (hs : am_s h r = some (100, n)) (hin : vp_in x n) (k : am_E d M (pc + 1) l st (am_wI h r x.toNatClampNeg v) Ps) : am_E d M pc l (.int v :: .int x :: .ref r :: st) h Ps := by
  obtain ⟨v2, hz2, k1, k2⟩ := k
  exact ⟨v2, hz2, am_x_iast hdec hs hin k1, k2⟩
theorem Eam_x_last {r n : Nat} {x : Int32} {v : Int64} (hdec : decode M.2.1 pc = .ok (.lastore, 1)) (hs : am_s h r = some (101, n)) (hin : vp_in x n) (k : am_E d M (pc + 1) l st (am_wL h r x.toNatClampNeg v) Ps) : am_E d M pc l (.long v :: .int x :: .ref r :: st) h Ps := by
  obtain ⟨v2, hz2, k1, k2⟩ := k
  exact ⟨v2, hz2, am_x_last hdec hs hin k1, k2⟩
theorem Eam_x_zast {r n : Nat} {x : Int32} {v : Int32} (hdec : decode M.2.1 pc = .ok (.bastore, 1)) (hs : am_s h r = some (102, n)) (hin : vp_in x n) (hv : v = 0 ∨ v = 1) (k : am_E d M (pc + 1) l st (am_wI h r x.toNatClampNeg v) Ps) : am_E d M pc l (.int v :: .int x :: .ref r :: st) h Ps := by
  obtain ⟨v2, hz2, k1, k2⟩ := k
  exact ⟨v2, hz2, am_x_zast hdec hs hin hv k1, k2⟩
theorem Eam_x_new {idx k0 : Nat} {Cn : String} {T : u_T} (hdec : decode M.2.1 pc = .ok (.new idx, 3)) (hok : am_ok k0 Cn T) (hl1 : Cond.classLink M.1.cls idx Cn ∈ lw_tbl) (hl2 : Cond.instantiable Cn (am_nf k0) ∈ lw_tbl) (hl3 : Cond.initialized Cn ∈ lw_tbl) (k : am_E d M (pc + 3) l (.ref (am_t h) :: st) (am_nw h (k0, 0) (am_nf k0)) Ps) : am_E d M pc l st h Ps := by
  obtain ⟨v2, hz2, k1, k2⟩ := k
  exact ⟨v2, hz2, am_x_new hdec hok hl1 hl2 hl3 k1, k2⟩
theorem Eam_x_qast {r n v n2 : Nat} {x : Int32} (hdec : decode M.2.1 pc = .ok (.aastore, 1)) (hs : am_s h r = some (103, n)) (hsv : am_s h v = some (3, n2)) (hin : vp_in x n) (k : am_E d M (pc + 1) l st (am_wP h r x.toNatClampNeg (some v)) Ps) : am_E d M pc l (.ref v :: .int x :: .ref r :: st) h Ps := by
  obtain ⟨v2, hz2, k1, k2⟩ := k
  exact ⟨v2, hz2, am_x_qast hdec hs hsv hin k1, k2⟩
theorem Eam_x_newI {x : Int32} {N : Nat} (hdec : decode M.2.1 pc = .ok (.newarray .int, 2)) (hn : ¬ x < 0) (hN : x.toNatClampNeg = N) (hN2 : N ≤ 60000000) (hw : Cond.arrayClass .int ∈ lw_tbl) (k : am_E d M (pc + 2) l (.ref (am_t h) :: st) (am_nw h (100, N) N) Ps) : am_E d M pc l (.int x :: st) h Ps := by
  obtain ⟨v2, hz2, k1, k2⟩ := k
  exact ⟨v2, hz2, am_x_newI hdec hn hN hN2 hw k1, k2⟩
theorem Eam_x_newL {x : Int32} {N : Nat} (hdec : decode M.2.1 pc = .ok (.newarray .long, 2)) (hn : ¬ x < 0) (hN : x.toNatClampNeg = N) (hN2 : N ≤ 60000000) (hw : Cond.arrayClass .long ∈ lw_tbl) (k : am_E d M (pc + 2) l (.ref (am_t h) :: st) (am_nw h (101, N) N) Ps) : am_E d M pc l (.int x :: st) h Ps := by
  obtain ⟨v2, hz2, k1, k2⟩ := k
  exact ⟨v2, hz2, am_x_newL hdec hn hN hN2 hw k1, k2⟩
theorem Eam_x_newZ {x : Int32} {N : Nat} (hdec : decode M.2.1 pc = .ok (.newarray .boolean, 2)) (hn : ¬ x < 0) (hN : x.toNatClampNeg = N) (hN2 : N ≤ 60000000) (hw : Cond.arrayClass .boolean ∈ lw_tbl) (k : am_E d M (pc + 2) l (.ref (am_t h) :: st) (am_nw h (102, N) N) Ps) : am_E d M pc l (.int x :: st) h Ps := by
  obtain ⟨v2, hz2, k1, k2⟩ := k
  exact ⟨v2, hz2, am_x_newZ hdec hn hN hN2 hw k1, k2⟩
theorem Eam_x_newQ {x : Int32} {N idx : Nat} (hdec : decode M.2.1 pc = .ok (.anewarray idx, 3)) (hn : ¬ x < 0) (hN : x.toNatClampNeg = N) (hN2 : N ≤ 60000000) (hw : Cond.classLink M.1.cls idx "MouthHouse$Manners" ∈ lw_tbl) (k : am_E d M (pc + 3) l (.ref (am_t h) :: st) (am_nw h (103, N) N) Ps) : am_E d M pc l (.int x :: st) h Ps := by
  obtain ⟨v2, hz2, k1, k2⟩ := k
  exact ⟨v2, hz2, am_x_newQ hdec hn hN hN2 hw k1, k2⟩
theorem Eam_x_oi {idx r : Nat} (hdec : decode M.2.1 pc = .ok (.invokespecial idx, 3)) (hd : 1 ≤ d) (hr : (st.map fun v => v.category).sum ≤ 8) (hw1 : Cond.methodLink M.1.cls idx objectInit ∈ lw_tbl) (hw2 : Cond.instanceMethod objectInit ∈ lw_tbl) (hw3 : Cond.code objectInit ⟨#[0xb1]⟩ 1 none ∈ lw_tbl) (k : am_E d M (pc + 3) l st h Ps) : am_E d M pc l (.ref r :: st) h Ps := by
  obtain ⟨v2, hz2, k1, k2⟩ := k
  exact ⟨v2, hz2, am_x_oi hdec hd hr hw1 hw2 hw3 k1, k2⟩
theorem Eam_x_cpI {idx r0 r1 n0 n1 : Nat} {sp dp n : Int32} (hdec : decode M.2.1 pc = .ok (.invokestatic idx, 3)) (hd : 1 ≤ d) (hr : (st.map fun v => v.category).sum ≤ 8) (hw1 : Cond.methodLink M.1.cls idx arraycopyName ∈ lw_tbl) (hw2 : Cond.native arraycopyName ∈ lw_tbl) (hw3 : Cond.static arraycopyName ∈ lw_tbl) (hw4 : Cond.initialized "java/lang/System" ∈ lw_tbl) (hs0 : am_s h r0 = some (100, n0)) (hs1 : am_s h r1 = some (100, n1)) (g1 : ¬ sp < 0) (g2 : ¬ dp < 0) (g3 : ¬ n < 0) (g4 : sp.toNatClampNeg + n.toNatClampNeg ≤ n0) (g5 : dp.toNatClampNeg + n.toNatClampNeg ≤ n1) (k : am_E d M (pc + 3) l st (am_rI h r1 (va_cpy (am_i h r0) (am_i h r1) sp.toNatClampNeg dp.toNatClampNeg n.toNatClampNeg)) Ps) : am_E d M pc l (.int n :: .int dp :: .ref r1 :: .int sp :: .ref r0 :: st) h Ps := by
  obtain ⟨v2, hz2, k1, k2⟩ := k
  exact ⟨v2, hz2, am_x_cpI hdec hd hr hw1 hw2 hw3 hw4 hs0 hs1 g1 g2 g3 g4 g5 k1, k2⟩
theorem Eam_x_cpL {idx r0 r1 n0 n1 : Nat} {sp dp n : Int32} (hdec : decode M.2.1 pc = .ok (.invokestatic idx, 3)) (hd : 1 ≤ d) (hr : (st.map fun v => v.category).sum ≤ 8) (hw1 : Cond.methodLink M.1.cls idx arraycopyName ∈ lw_tbl) (hw2 : Cond.native arraycopyName ∈ lw_tbl) (hw3 : Cond.static arraycopyName ∈ lw_tbl) (hw4 : Cond.initialized "java/lang/System" ∈ lw_tbl) (hs0 : am_s h r0 = some (101, n0)) (hs1 : am_s h r1 = some (101, n1)) (g1 : ¬ sp < 0) (g2 : ¬ dp < 0) (g3 : ¬ n < 0) (g4 : sp.toNatClampNeg + n.toNatClampNeg ≤ n0) (g5 : dp.toNatClampNeg + n.toNatClampNeg ≤ n1) (k : am_E d M (pc + 3) l st (am_rL h r1 (va_cpy (am_l h r0) (am_l h r1) sp.toNatClampNeg dp.toNatClampNeg n.toNatClampNeg)) Ps) : am_E d M pc l (.int n :: .int dp :: .ref r1 :: .int sp :: .ref r0 :: st) h Ps := by
  obtain ⟨v2, hz2, k1, k2⟩ := k
  exact ⟨v2, hz2, am_x_cpL hdec hd hr hw1 hw2 hw3 hw4 hs0 hs1 g1 g2 g3 g4 g5 k1, k2⟩
theorem Eq_ic {n : Int} {v : Int32} (hd : decode M.2.1 pc = .ok (.iconst n, 1)) (hv : Int32.ofInt n = v) (k : am_E d M (pc + 1) l (.int v :: st) h Ps) : am_E d M pc l st h Ps := by
  obtain ⟨v2, hz2, k1, k2⟩ := k
  exact ⟨v2, hz2, q_ic hd hv k1, k2⟩
theorem Eq_bp {n : Int} {v : Int32} (hd : decode M.2.1 pc = .ok (.bipush n, 2)) (hv : (Int8.ofInt n).toInt32 = v) (k : am_E d M (pc + 2) l (.int v :: st) h Ps) : am_E d M pc l st h Ps := by
  obtain ⟨v2, hz2, k1, k2⟩ := k
  exact ⟨v2, hz2, q_bp hd hv k1, k2⟩
theorem Eq_sp {n : Int} {v : Int32} (hd : decode M.2.1 pc = .ok (.sipush n, 3)) (hv : (Int16.ofInt n).toInt32 = v) (k : am_E d M (pc + 3) l (.int v :: st) h Ps) : am_E d M pc l st h Ps := by
  obtain ⟨v2, hz2, k1, k2⟩ := k
  exact ⟨v2, hz2, q_sp hd hv k1, k2⟩
theorem Eq_lc {n : Fin 2} {v : Int64} (hd : decode M.2.1 pc = .ok (.lconst n, 1)) (hv : Int64.ofNat n.val = v) (k : am_E d M (pc + 1) l (.long v :: st) h Ps) : am_E d M pc l st h Ps := by
  obtain ⟨v2, hz2, k1, k2⟩ := k
  exact ⟨v2, hz2, q_lc hd hv k1, k2⟩
theorem Eq_il {i : Nat} {x : Int32} (hd : decode M.2.1 pc = .ok (.iload i, 2)) (hv : l[i]? = some (some (.int x))) (k : am_E d M (pc + 2) l (.int x :: st) h Ps) : am_E d M pc l st h Ps := by
  obtain ⟨v2, hz2, k1, k2⟩ := k
  exact ⟨v2, hz2, q_il hd hv k1, k2⟩
theorem Eq_iln {i : Fin 4} {x : Int32} (hd : decode M.2.1 pc = .ok (.iload_n i, 1)) (hv : l[i.val]? = some (some (.int x))) (k : am_E d M (pc + 1) l (.int x :: st) h Ps) : am_E d M pc l st h Ps := by
  obtain ⟨v2, hz2, k1, k2⟩ := k
  exact ⟨v2, hz2, q_iln hd hv k1, k2⟩
theorem Eq_ll {i : Nat} {x : Int64} (hd : decode M.2.1 pc = .ok (.lload i, 2)) (hv : l[i]? = some (some (.long x))) (k : am_E d M (pc + 2) l (.long x :: st) h Ps) : am_E d M pc l st h Ps := by
  obtain ⟨v2, hz2, k1, k2⟩ := k
  exact ⟨v2, hz2, q_ll hd hv k1, k2⟩
theorem Eq_lln {i : Fin 4} {x : Int64} (hd : decode M.2.1 pc = .ok (.lload_n i, 1)) (hv : l[i.val]? = some (some (.long x))) (k : am_E d M (pc + 1) l (.long x :: st) h Ps) : am_E d M pc l st h Ps := by
  obtain ⟨v2, hz2, k1, k2⟩ := k
  exact ⟨v2, hz2, q_lln hd hv k1, k2⟩
theorem Eq_al {i : Nat} {x : Nat} (hd : decode M.2.1 pc = .ok (.aload i, 2)) (hv : l[i]? = some (some (.ref x))) (k : am_E d M (pc + 2) l (.ref x :: st) h Ps) : am_E d M pc l st h Ps := by
  obtain ⟨v2, hz2, k1, k2⟩ := k
  exact ⟨v2, hz2, q_al hd hv k1, k2⟩
theorem Eq_aln {i : Fin 4} {x : Nat} (hd : decode M.2.1 pc = .ok (.aload_n i, 1)) (hv : l[i.val]? = some (some (.ref x))) (k : am_E d M (pc + 1) l (.ref x :: st) h Ps) : am_E d M pc l st h Ps := by
  obtain ⟨v2, hz2, k1, k2⟩ := k
  exact ⟨v2, hz2, q_aln hd hv k1, k2⟩
theorem Eq_alnN {i : Fin 4} (hd : decode M.2.1 pc = .ok (.aload_n i, 1)) (hv : l[i.val]? = some (some .null)) (k : am_E d M (pc + 1) l (.null :: st) h Ps) : am_E d M pc l st h Ps := by
  obtain ⟨v2, hz2, k1, k2⟩ := k
  exact ⟨v2, hz2, q_alnN hd hv k1, k2⟩
theorem Eq_alnR {i : Fin 4} {x : Option Nat} (hd : decode M.2.1 pc = .ok (.aload_n i, 1)) (hv : l[i.val]? = some (some (am_rv x))) (k : am_E d M (pc + 1) l (am_rv x :: st) h Ps) : am_E d M pc l st h Ps := by
  obtain ⟨v2, hz2, k1, k2⟩ := k
  exact ⟨v2, hz2, q_alnR hd hv k1, k2⟩
theorem Eq_is {i : Nat} {x : Int32} (hd : decode M.2.1 pc = .ok (.istore i, 2)) (hn : i < M.2.2.1) (k : am_E d M (pc + 2) (am_s1 l i (.int x)) st h Ps) : am_E d M pc l (.int x :: st) h Ps := by
  obtain ⟨v2, hz2, k1, k2⟩ := k
  exact ⟨v2, hz2, q_is hd hn k1, k2⟩
theorem Eq_isn {i : Fin 4} {x : Int32} (hd : decode M.2.1 pc = .ok (.istore_n i, 1)) (hn : i.val < M.2.2.1) (k : am_E d M (pc + 1) (am_s1 l i.val (.int x)) st h Ps) : am_E d M pc l (.int x :: st) h Ps := by
  obtain ⟨v2, hz2, k1, k2⟩ := k
  exact ⟨v2, hz2, q_isn hd hn k1, k2⟩
theorem Eq_ls {i : Nat} {x : Int64} (hd : decode M.2.1 pc = .ok (.lstore i, 2)) (hn : i + 1 < M.2.2.1) (k : am_E d M (pc + 2) (am_s2 l i (.long x)) st h Ps) : am_E d M pc l (.long x :: st) h Ps := by
  obtain ⟨v2, hz2, k1, k2⟩ := k
  exact ⟨v2, hz2, q_ls hd hn k1, k2⟩
theorem Eq_lsn {i : Fin 4} {x : Int64} (hd : decode M.2.1 pc = .ok (.lstore_n i, 1)) (hn : i.val + 1 < M.2.2.1) (k : am_E d M (pc + 1) (am_s2 l i.val (.long x)) st h Ps) : am_E d M pc l (.long x :: st) h Ps := by
  obtain ⟨v2, hz2, k1, k2⟩ := k
  exact ⟨v2, hz2, q_lsn hd hn k1, k2⟩
theorem Eq_as {i : Nat} {x : Nat} (hd : decode M.2.1 pc = .ok (.astore i, 2)) (hn : i < M.2.2.1) (k : am_E d M (pc + 2) (am_s1 l i (.ref x)) st h Ps) : am_E d M pc l (.ref x :: st) h Ps := by
  obtain ⟨v2, hz2, k1, k2⟩ := k
  exact ⟨v2, hz2, q_as hd hn k1, k2⟩
theorem Eq_asn {i : Fin 4} {x : Nat} (hd : decode M.2.1 pc = .ok (.astore_n i, 1)) (hn : i.val < M.2.2.1) (k : am_E d M (pc + 1) (am_s1 l i.val (.ref x)) st h Ps) : am_E d M pc l (.ref x :: st) h Ps := by
  obtain ⟨v2, hz2, k1, k2⟩ := k
  exact ⟨v2, hz2, q_asn hd hn k1, k2⟩
theorem Eq_inc {i j : Nat} (hd : decode M.2.1 pc = .ok (.iinc i 1, 3)) (hv : l[i]? = some (some (.int (nI j)))) (hn : i < M.2.2.1) (k : am_E d M (pc + 3) (am_s1 l i (.int (nI (j + 1)))) st h Ps) : am_E d M pc l st h Ps := by
  obtain ⟨v2, hz2, k1, k2⟩ := k
  exact ⟨v2, hz2, q_inc hd hv hn k1, k2⟩
theorem Eq_dec {i j : Nat} (hd : decode M.2.1 pc = .ok (.iinc i (-1), 3)) (hv : l[i]? = some (some (.int (nI (j + 1))))) (hn : i < M.2.2.1) (k : am_E d M (pc + 3) (am_s1 l i (.int (nI j))) st h Ps) : am_E d M pc l st h Ps := by
  obtain ⟨v2, hz2, k1, k2⟩ := k
  exact ⟨v2, hz2, q_dec hd hv hn k1, k2⟩
theorem Eq_add {a b : Nat} (hd : decode M.2.1 pc = .ok (.iadd, 1)) (k : am_E d M (pc + 1) l (.int (nI (a + b)) :: st) h Ps) : am_E d M pc l (.int (nI b) :: .int (nI a) :: st) h Ps := by
  obtain ⟨v2, hz2, k1, k2⟩ := k
  exact ⟨v2, hz2, q_add hd k1, k2⟩
theorem Eq_mul {a b : Nat} (hd : decode M.2.1 pc = .ok (.imul, 1)) (k : am_E d M (pc + 1) l (.int (nI (a * b)) :: st) h Ps) : am_E d M pc l (.int (nI b) :: .int (nI a) :: st) h Ps := by
  obtain ⟨v2, hz2, k1, k2⟩ := k
  exact ⟨v2, hz2, q_mul hd k1, k2⟩
theorem Eq_sub {a b : Nat} (hd : decode M.2.1 pc = .ok (.isub, 1)) (hb : b ≤ a) (k : am_E d M (pc + 1) l (.int (nI (a - b)) :: st) h Ps) : am_E d M pc l (.int (nI b) :: .int (nI a) :: st) h Ps := by
  obtain ⟨v2, hz2, k1, k2⟩ := k
  exact ⟨v2, hz2, q_sub hd hb k1, k2⟩
theorem Eq_and {a b : Nat} (hd : decode M.2.1 pc = .ok (.iand, 1)) (k : am_E d M (pc + 1) l (.int (nI (a &&& b)) :: st) h Ps) : am_E d M pc l (.int (nI b) :: .int (nI a) :: st) h Ps := by
  obtain ⟨v2, hz2, k1, k2⟩ := k
  exact ⟨v2, hz2, q_and hd k1, k2⟩
theorem Eq_or {a b : Nat} (hd : decode M.2.1 pc = .ok (.ior, 1)) (k : am_E d M (pc + 1) l (.int (nI (a ||| b)) :: st) h Ps) : am_E d M pc l (.int (nI b) :: .int (nI a) :: st) h Ps := by
  obtain ⟨v2, hz2, k1, k2⟩ := k
  exact ⟨v2, hz2, q_or hd k1, k2⟩
theorem Eq_shl {a s : Nat} (hd : decode M.2.1 pc = .ok (.ishl, 1)) (hs : s < 32) (hb : a * 2 ^ s < 2 ^ 32) (k : am_E d M (pc + 1) l (.int (nI (a * 2 ^ s)) :: st) h Ps) : am_E d M pc l (.int (nI s) :: .int (nI a) :: st) h Ps := by
  obtain ⟨v2, hz2, k1, k2⟩ := k
  exact ⟨v2, hz2, q_shl hd hs hb k1, k2⟩
theorem Eq_shr {a s : Nat} (hd : decode M.2.1 pc = .ok (.ishr, 1)) (hs : s < 32) (ha : a < 2 ^ 31) (k : am_E d M (pc + 1) l (.int (nI (a / 2 ^ s)) :: st) h Ps) : am_E d M pc l (.int (nI s) :: .int (nI a) :: st) h Ps := by
  obtain ⟨v2, hz2, k1, k2⟩ := k
  exact ⟨v2, hz2, q_shr hd hs ha k1, k2⟩
theorem Eq_div {a b : Nat} (hd : decode M.2.1 pc = .ok (.idiv, 1)) (ha : a < 2 ^ 31) (h0 : 0 < b) (hb : b < 2 ^ 31) (k : am_E d M (pc + 1) l (.int (nI (a / b)) :: st) h Ps) : am_E d M pc l (.int (nI b) :: .int (nI a) :: st) h Ps := by
  obtain ⟨v2, hz2, k1, k2⟩ := k
  exact ⟨v2, hz2, q_div hd ha h0 hb k1, k2⟩
theorem Eq_rem {a b : Nat} (hd : decode M.2.1 pc = .ok (.irem, 1)) (ha : a < 2 ^ 31) (h0 : 0 < b) (hb : b < 2 ^ 31) (k : am_E d M (pc + 1) l (.int (nI (a % b)) :: st) h Ps) : am_E d M pc l (.int (nI b) :: .int (nI a) :: st) h Ps := by
  obtain ⟨v2, hz2, k1, k2⟩ := k
  exact ⟨v2, hz2, q_rem hd ha h0 hb k1, k2⟩
theorem Eb_if_eq {x : Int32} {off : Int} (tgt : Nat) (hd : decode M.2.1 pc = .ok (.ifCond .eq off, 3)) (ht : (pc : Int) + off = (tgt : Int)) (kt : x = 0 →  am_E d M tgt l st h Ps) (kf : ¬ x = 0 →  am_E d M (pc + 3) l st h Ps) : am_E d M pc l (.int x :: st) h Ps := by
  by_cases hz : x = 0
  · obtain ⟨v, h2, k1, k2⟩ := kt hz; exact ⟨v, h2, b_if_eq tgt hd ht (fun _ => k1) (fun z => absurd hz z), k2⟩
  · obtain ⟨v, h2, k1, k2⟩ := kf hz; exact ⟨v, h2, b_if_eq tgt hd ht (fun z => absurd z hz) (fun _ => k1), k2⟩
theorem Et_if_eq {x : Int32} {off : Int} (tgt : Nat) (hd : decode M.2.1 pc = .ok (.ifCond .eq off, 3)) (ht : (pc : Int) + off = (tgt : Int)) (hc : x = 0) (k : am_E d M tgt l st h Ps) : am_E d M pc l (.int x :: st) h Ps := by
  obtain ⟨v2, hz2, k1, k2⟩ := k
  exact ⟨v2, hz2, t_if_eq tgt hd ht hc k1, k2⟩
theorem Ef_if_eq {x : Int32} {off : Int} {tgt : Nat} (hd : decode M.2.1 pc = .ok (.ifCond .eq off, 3)) (ht : (pc : Int) + off = (tgt : Int)) (hc : ¬ x = 0) (k : am_E d M (pc + 3) l st h Ps) : am_E d M pc l (.int x :: st) h Ps := by
  obtain ⟨v2, hz2, k1, k2⟩ := k
  exact ⟨v2, hz2, f_if_eq hd ht hc k1, k2⟩
theorem Eb_ic_eq {x y : Int32} {off : Int} (tgt : Nat) (hd : decode M.2.1 pc = .ok (.if_icmp .eq off, 3)) (ht : (pc : Int) + off = (tgt : Int)) (kt : x = y →  am_E d M tgt l st h Ps) (kf : ¬ x = y →  am_E d M (pc + 3) l st h Ps) : am_E d M pc l (.int y :: .int x :: st) h Ps := by
  by_cases hz : x = y
  · obtain ⟨v, h2, k1, k2⟩ := kt hz; exact ⟨v, h2, b_ic_eq tgt hd ht (fun _ => k1) (fun z => absurd hz z), k2⟩
  · obtain ⟨v, h2, k1, k2⟩ := kf hz; exact ⟨v, h2, b_ic_eq tgt hd ht (fun z => absurd z hz) (fun _ => k1), k2⟩
theorem Et_ic_eq {x y : Int32} {off : Int} (tgt : Nat) (hd : decode M.2.1 pc = .ok (.if_icmp .eq off, 3)) (ht : (pc : Int) + off = (tgt : Int)) (hc : x = y) (k : am_E d M tgt l st h Ps) : am_E d M pc l (.int y :: .int x :: st) h Ps := by
  obtain ⟨v2, hz2, k1, k2⟩ := k
  exact ⟨v2, hz2, t_ic_eq tgt hd ht hc k1, k2⟩
theorem Ef_ic_eq {x y : Int32} {off : Int} {tgt : Nat} (hd : decode M.2.1 pc = .ok (.if_icmp .eq off, 3)) (ht : (pc : Int) + off = (tgt : Int)) (hc : ¬ x = y) (k : am_E d M (pc + 3) l st h Ps) : am_E d M pc l (.int y :: .int x :: st) h Ps := by
  obtain ⟨v2, hz2, k1, k2⟩ := k
  exact ⟨v2, hz2, f_ic_eq hd ht hc k1, k2⟩
theorem En_ic_eq {a b : Nat} {off : Int} (tgt : Nat) (hd : decode M.2.1 pc = .ok (.if_icmp .eq off, 3)) (ht : (pc : Int) + off = (tgt : Int)) (ha : a < 2 ^ 31) (hb : b < 2 ^ 31) (kt : a = b →  am_E d M tgt l st h Ps) (kf : ¬ a = b →  am_E d M (pc + 3) l st h Ps) : am_E d M pc l (.int (nI b) :: .int (nI a) :: st) h Ps := by
  by_cases hz : a = b
  · obtain ⟨v, h2, k1, k2⟩ := kt hz; exact ⟨v, h2, n_ic_eq tgt hd ht ha hb (fun _ => k1) (fun z => absurd hz z), k2⟩
  · obtain ⟨v, h2, k1, k2⟩ := kf hz; exact ⟨v, h2, n_ic_eq tgt hd ht ha hb (fun z => absurd z hz) (fun _ => k1), k2⟩
theorem Eb_if_ne {x : Int32} {off : Int} (tgt : Nat) (hd : decode M.2.1 pc = .ok (.ifCond .ne off, 3)) (ht : (pc : Int) + off = (tgt : Int)) (kt : ¬ x = 0 →  am_E d M tgt l st h Ps) (kf : x = 0 →  am_E d M (pc + 3) l st h Ps) : am_E d M pc l (.int x :: st) h Ps := by
  by_cases hz : x = 0
  · obtain ⟨v, h2, k1, k2⟩ := kf hz; exact ⟨v, h2, b_if_ne tgt hd ht (fun z => absurd hz z) (fun _ => k1), k2⟩
  · obtain ⟨v, h2, k1, k2⟩ := kt hz; exact ⟨v, h2, b_if_ne tgt hd ht (fun _ => k1) (fun z => absurd z hz), k2⟩
theorem Et_if_ne {x : Int32} {off : Int} (tgt : Nat) (hd : decode M.2.1 pc = .ok (.ifCond .ne off, 3)) (ht : (pc : Int) + off = (tgt : Int)) (hc : ¬ x = 0) (k : am_E d M tgt l st h Ps) : am_E d M pc l (.int x :: st) h Ps := by
  obtain ⟨v2, hz2, k1, k2⟩ := k
  exact ⟨v2, hz2, t_if_ne tgt hd ht hc k1, k2⟩
theorem Ef_if_ne {x : Int32} {off : Int} {tgt : Nat} (hd : decode M.2.1 pc = .ok (.ifCond .ne off, 3)) (ht : (pc : Int) + off = (tgt : Int)) (hc : x = 0) (k : am_E d M (pc + 3) l st h Ps) : am_E d M pc l (.int x :: st) h Ps := by
  obtain ⟨v2, hz2, k1, k2⟩ := k
  exact ⟨v2, hz2, f_if_ne hd ht hc k1, k2⟩
theorem Eb_ic_ne {x y : Int32} {off : Int} (tgt : Nat) (hd : decode M.2.1 pc = .ok (.if_icmp .ne off, 3)) (ht : (pc : Int) + off = (tgt : Int)) (kt : ¬ x = y →  am_E d M tgt l st h Ps) (kf : x = y →  am_E d M (pc + 3) l st h Ps) : am_E d M pc l (.int y :: .int x :: st) h Ps := by
  by_cases hz : x = y
  · obtain ⟨v, h2, k1, k2⟩ := kf hz; exact ⟨v, h2, b_ic_ne tgt hd ht (fun z => absurd hz z) (fun _ => k1), k2⟩
  · obtain ⟨v, h2, k1, k2⟩ := kt hz; exact ⟨v, h2, b_ic_ne tgt hd ht (fun _ => k1) (fun z => absurd z hz), k2⟩
theorem Et_ic_ne {x y : Int32} {off : Int} (tgt : Nat) (hd : decode M.2.1 pc = .ok (.if_icmp .ne off, 3)) (ht : (pc : Int) + off = (tgt : Int)) (hc : ¬ x = y) (k : am_E d M tgt l st h Ps) : am_E d M pc l (.int y :: .int x :: st) h Ps := by
  obtain ⟨v2, hz2, k1, k2⟩ := k
  exact ⟨v2, hz2, t_ic_ne tgt hd ht hc k1, k2⟩
theorem Ef_ic_ne {x y : Int32} {off : Int} {tgt : Nat} (hd : decode M.2.1 pc = .ok (.if_icmp .ne off, 3)) (ht : (pc : Int) + off = (tgt : Int)) (hc : x = y) (k : am_E d M (pc + 3) l st h Ps) : am_E d M pc l (.int y :: .int x :: st) h Ps := by
  obtain ⟨v2, hz2, k1, k2⟩ := k
  exact ⟨v2, hz2, f_ic_ne hd ht hc k1, k2⟩
theorem En_ic_ne {a b : Nat} {off : Int} (tgt : Nat) (hd : decode M.2.1 pc = .ok (.if_icmp .ne off, 3)) (ht : (pc : Int) + off = (tgt : Int)) (ha : a < 2 ^ 31) (hb : b < 2 ^ 31) (kt : ¬ a = b →  am_E d M tgt l st h Ps) (kf : a = b →  am_E d M (pc + 3) l st h Ps) : am_E d M pc l (.int (nI b) :: .int (nI a) :: st) h Ps := by
  by_cases hz : a = b
  · obtain ⟨v, h2, k1, k2⟩ := kf hz; exact ⟨v, h2, n_ic_ne tgt hd ht ha hb (fun z => absurd hz z) (fun _ => k1), k2⟩
  · obtain ⟨v, h2, k1, k2⟩ := kt hz; exact ⟨v, h2, n_ic_ne tgt hd ht ha hb (fun _ => k1) (fun z => absurd z hz), k2⟩
theorem Eb_if_lt {x : Int32} {off : Int} (tgt : Nat) (hd : decode M.2.1 pc = .ok (.ifCond .lt off, 3)) (ht : (pc : Int) + off = (tgt : Int)) (kt : x < 0 →  am_E d M tgt l st h Ps) (kf : ¬ x < 0 →  am_E d M (pc + 3) l st h Ps) : am_E d M pc l (.int x :: st) h Ps := by
  by_cases hz : x < 0
  · obtain ⟨v, h2, k1, k2⟩ := kt hz; exact ⟨v, h2, b_if_lt tgt hd ht (fun _ => k1) (fun z => absurd hz z), k2⟩
  · obtain ⟨v, h2, k1, k2⟩ := kf hz; exact ⟨v, h2, b_if_lt tgt hd ht (fun z => absurd z hz) (fun _ => k1), k2⟩
theorem Et_if_lt {x : Int32} {off : Int} (tgt : Nat) (hd : decode M.2.1 pc = .ok (.ifCond .lt off, 3)) (ht : (pc : Int) + off = (tgt : Int)) (hc : x < 0) (k : am_E d M tgt l st h Ps) : am_E d M pc l (.int x :: st) h Ps := by
  obtain ⟨v2, hz2, k1, k2⟩ := k
  exact ⟨v2, hz2, t_if_lt tgt hd ht hc k1, k2⟩
theorem Ef_if_lt {x : Int32} {off : Int} {tgt : Nat} (hd : decode M.2.1 pc = .ok (.ifCond .lt off, 3)) (ht : (pc : Int) + off = (tgt : Int)) (hc : ¬ x < 0) (k : am_E d M (pc + 3) l st h Ps) : am_E d M pc l (.int x :: st) h Ps := by
  obtain ⟨v2, hz2, k1, k2⟩ := k
  exact ⟨v2, hz2, f_if_lt hd ht hc k1, k2⟩
theorem Eb_ic_lt {x y : Int32} {off : Int} (tgt : Nat) (hd : decode M.2.1 pc = .ok (.if_icmp .lt off, 3)) (ht : (pc : Int) + off = (tgt : Int)) (kt : x < y →  am_E d M tgt l st h Ps) (kf : ¬ x < y →  am_E d M (pc + 3) l st h Ps) : am_E d M pc l (.int y :: .int x :: st) h Ps := by
  by_cases hz : x < y
  · obtain ⟨v, h2, k1, k2⟩ := kt hz; exact ⟨v, h2, b_ic_lt tgt hd ht (fun _ => k1) (fun z => absurd hz z), k2⟩
  · obtain ⟨v, h2, k1, k2⟩ := kf hz; exact ⟨v, h2, b_ic_lt tgt hd ht (fun z => absurd z hz) (fun _ => k1), k2⟩
theorem Et_ic_lt {x y : Int32} {off : Int} (tgt : Nat) (hd : decode M.2.1 pc = .ok (.if_icmp .lt off, 3)) (ht : (pc : Int) + off = (tgt : Int)) (hc : x < y) (k : am_E d M tgt l st h Ps) : am_E d M pc l (.int y :: .int x :: st) h Ps := by
  obtain ⟨v2, hz2, k1, k2⟩ := k
  exact ⟨v2, hz2, t_ic_lt tgt hd ht hc k1, k2⟩
theorem Ef_ic_lt {x y : Int32} {off : Int} {tgt : Nat} (hd : decode M.2.1 pc = .ok (.if_icmp .lt off, 3)) (ht : (pc : Int) + off = (tgt : Int)) (hc : ¬ x < y) (k : am_E d M (pc + 3) l st h Ps) : am_E d M pc l (.int y :: .int x :: st) h Ps := by
  obtain ⟨v2, hz2, k1, k2⟩ := k
  exact ⟨v2, hz2, f_ic_lt hd ht hc k1, k2⟩
theorem En_ic_lt {a b : Nat} {off : Int} (tgt : Nat) (hd : decode M.2.1 pc = .ok (.if_icmp .lt off, 3)) (ht : (pc : Int) + off = (tgt : Int)) (ha : a < 2 ^ 31) (hb : b < 2 ^ 31) (kt : a < b →  am_E d M tgt l st h Ps) (kf : ¬ a < b →  am_E d M (pc + 3) l st h Ps) : am_E d M pc l (.int (nI b) :: .int (nI a) :: st) h Ps := by
  by_cases hz : a < b
  · obtain ⟨v, h2, k1, k2⟩ := kt hz; exact ⟨v, h2, n_ic_lt tgt hd ht ha hb (fun _ => k1) (fun z => absurd hz z), k2⟩
  · obtain ⟨v, h2, k1, k2⟩ := kf hz; exact ⟨v, h2, n_ic_lt tgt hd ht ha hb (fun z => absurd z hz) (fun _ => k1), k2⟩
theorem Eb_if_ge {x : Int32} {off : Int} (tgt : Nat) (hd : decode M.2.1 pc = .ok (.ifCond .ge off, 3)) (ht : (pc : Int) + off = (tgt : Int)) (kt : 0 ≤ x →  am_E d M tgt l st h Ps) (kf : ¬ 0 ≤ x →  am_E d M (pc + 3) l st h Ps) : am_E d M pc l (.int x :: st) h Ps := by
  by_cases hz : 0 ≤ x
  · obtain ⟨v, h2, k1, k2⟩ := kt hz; exact ⟨v, h2, b_if_ge tgt hd ht (fun _ => k1) (fun z => absurd hz z), k2⟩
  · obtain ⟨v, h2, k1, k2⟩ := kf hz; exact ⟨v, h2, b_if_ge tgt hd ht (fun z => absurd z hz) (fun _ => k1), k2⟩
theorem Et_if_ge {x : Int32} {off : Int} (tgt : Nat) (hd : decode M.2.1 pc = .ok (.ifCond .ge off, 3)) (ht : (pc : Int) + off = (tgt : Int)) (hc : 0 ≤ x) (k : am_E d M tgt l st h Ps) : am_E d M pc l (.int x :: st) h Ps := by
  obtain ⟨v2, hz2, k1, k2⟩ := k
  exact ⟨v2, hz2, t_if_ge tgt hd ht hc k1, k2⟩
theorem Ef_if_ge {x : Int32} {off : Int} {tgt : Nat} (hd : decode M.2.1 pc = .ok (.ifCond .ge off, 3)) (ht : (pc : Int) + off = (tgt : Int)) (hc : ¬ 0 ≤ x) (k : am_E d M (pc + 3) l st h Ps) : am_E d M pc l (.int x :: st) h Ps := by
  obtain ⟨v2, hz2, k1, k2⟩ := k
  exact ⟨v2, hz2, f_if_ge hd ht hc k1, k2⟩
theorem Eb_ic_ge {x y : Int32} {off : Int} (tgt : Nat) (hd : decode M.2.1 pc = .ok (.if_icmp .ge off, 3)) (ht : (pc : Int) + off = (tgt : Int)) (kt : y ≤ x →  am_E d M tgt l st h Ps) (kf : ¬ y ≤ x →  am_E d M (pc + 3) l st h Ps) : am_E d M pc l (.int y :: .int x :: st) h Ps := by
  by_cases hz : y ≤ x
  · obtain ⟨v, h2, k1, k2⟩ := kt hz; exact ⟨v, h2, b_ic_ge tgt hd ht (fun _ => k1) (fun z => absurd hz z), k2⟩
  · obtain ⟨v, h2, k1, k2⟩ := kf hz; exact ⟨v, h2, b_ic_ge tgt hd ht (fun z => absurd z hz) (fun _ => k1), k2⟩
theorem Et_ic_ge {x y : Int32} {off : Int} (tgt : Nat) (hd : decode M.2.1 pc = .ok (.if_icmp .ge off, 3)) (ht : (pc : Int) + off = (tgt : Int)) (hc : y ≤ x) (k : am_E d M tgt l st h Ps) : am_E d M pc l (.int y :: .int x :: st) h Ps := by
  obtain ⟨v2, hz2, k1, k2⟩ := k
  exact ⟨v2, hz2, t_ic_ge tgt hd ht hc k1, k2⟩
theorem Ef_ic_ge {x y : Int32} {off : Int} {tgt : Nat} (hd : decode M.2.1 pc = .ok (.if_icmp .ge off, 3)) (ht : (pc : Int) + off = (tgt : Int)) (hc : ¬ y ≤ x) (k : am_E d M (pc + 3) l st h Ps) : am_E d M pc l (.int y :: .int x :: st) h Ps := by
  obtain ⟨v2, hz2, k1, k2⟩ := k
  exact ⟨v2, hz2, f_ic_ge hd ht hc k1, k2⟩
theorem En_ic_ge {a b : Nat} {off : Int} (tgt : Nat) (hd : decode M.2.1 pc = .ok (.if_icmp .ge off, 3)) (ht : (pc : Int) + off = (tgt : Int)) (ha : a < 2 ^ 31) (hb : b < 2 ^ 31) (kt : b ≤ a →  am_E d M tgt l st h Ps) (kf : ¬ b ≤ a →  am_E d M (pc + 3) l st h Ps) : am_E d M pc l (.int (nI b) :: .int (nI a) :: st) h Ps := by
  by_cases hz : b ≤ a
  · obtain ⟨v, h2, k1, k2⟩ := kt hz; exact ⟨v, h2, n_ic_ge tgt hd ht ha hb (fun _ => k1) (fun z => absurd hz z), k2⟩
  · obtain ⟨v, h2, k1, k2⟩ := kf hz; exact ⟨v, h2, n_ic_ge tgt hd ht ha hb (fun z => absurd z hz) (fun _ => k1), k2⟩
theorem Eb_if_gt {x : Int32} {off : Int} (tgt : Nat) (hd : decode M.2.1 pc = .ok (.ifCond .gt off, 3)) (ht : (pc : Int) + off = (tgt : Int)) (kt : 0 < x →  am_E d M tgt l st h Ps) (kf : ¬ 0 < x →  am_E d M (pc + 3) l st h Ps) : am_E d M pc l (.int x :: st) h Ps := by
  by_cases hz : 0 < x
  · obtain ⟨v, h2, k1, k2⟩ := kt hz; exact ⟨v, h2, b_if_gt tgt hd ht (fun _ => k1) (fun z => absurd hz z), k2⟩
  · obtain ⟨v, h2, k1, k2⟩ := kf hz; exact ⟨v, h2, b_if_gt tgt hd ht (fun z => absurd z hz) (fun _ => k1), k2⟩
theorem Et_if_gt {x : Int32} {off : Int} (tgt : Nat) (hd : decode M.2.1 pc = .ok (.ifCond .gt off, 3)) (ht : (pc : Int) + off = (tgt : Int)) (hc : 0 < x) (k : am_E d M tgt l st h Ps) : am_E d M pc l (.int x :: st) h Ps := by
  obtain ⟨v2, hz2, k1, k2⟩ := k
  exact ⟨v2, hz2, t_if_gt tgt hd ht hc k1, k2⟩
theorem Ef_if_gt {x : Int32} {off : Int} {tgt : Nat} (hd : decode M.2.1 pc = .ok (.ifCond .gt off, 3)) (ht : (pc : Int) + off = (tgt : Int)) (hc : ¬ 0 < x) (k : am_E d M (pc + 3) l st h Ps) : am_E d M pc l (.int x :: st) h Ps := by
  obtain ⟨v2, hz2, k1, k2⟩ := k
  exact ⟨v2, hz2, f_if_gt hd ht hc k1, k2⟩
theorem Eb_ic_gt {x y : Int32} {off : Int} (tgt : Nat) (hd : decode M.2.1 pc = .ok (.if_icmp .gt off, 3)) (ht : (pc : Int) + off = (tgt : Int)) (kt : y < x →  am_E d M tgt l st h Ps) (kf : ¬ y < x →  am_E d M (pc + 3) l st h Ps) : am_E d M pc l (.int y :: .int x :: st) h Ps := by
  by_cases hz : y < x
  · obtain ⟨v, h2, k1, k2⟩ := kt hz; exact ⟨v, h2, b_ic_gt tgt hd ht (fun _ => k1) (fun z => absurd hz z), k2⟩
  · obtain ⟨v, h2, k1, k2⟩ := kf hz; exact ⟨v, h2, b_ic_gt tgt hd ht (fun z => absurd z hz) (fun _ => k1), k2⟩
theorem Et_ic_gt {x y : Int32} {off : Int} (tgt : Nat) (hd : decode M.2.1 pc = .ok (.if_icmp .gt off, 3)) (ht : (pc : Int) + off = (tgt : Int)) (hc : y < x) (k : am_E d M tgt l st h Ps) : am_E d M pc l (.int y :: .int x :: st) h Ps := by
  obtain ⟨v2, hz2, k1, k2⟩ := k
  exact ⟨v2, hz2, t_ic_gt tgt hd ht hc k1, k2⟩
theorem Ef_ic_gt {x y : Int32} {off : Int} {tgt : Nat} (hd : decode M.2.1 pc = .ok (.if_icmp .gt off, 3)) (ht : (pc : Int) + off = (tgt : Int)) (hc : ¬ y < x) (k : am_E d M (pc + 3) l st h Ps) : am_E d M pc l (.int y :: .int x :: st) h Ps := by
  obtain ⟨v2, hz2, k1, k2⟩ := k
  exact ⟨v2, hz2, f_ic_gt hd ht hc k1, k2⟩
theorem En_ic_gt {a b : Nat} {off : Int} (tgt : Nat) (hd : decode M.2.1 pc = .ok (.if_icmp .gt off, 3)) (ht : (pc : Int) + off = (tgt : Int)) (ha : a < 2 ^ 31) (hb : b < 2 ^ 31) (kt : b < a →  am_E d M tgt l st h Ps) (kf : ¬ b < a →  am_E d M (pc + 3) l st h Ps) : am_E d M pc l (.int (nI b) :: .int (nI a) :: st) h Ps := by
  by_cases hz : b < a
  · obtain ⟨v, h2, k1, k2⟩ := kt hz; exact ⟨v, h2, n_ic_gt tgt hd ht ha hb (fun _ => k1) (fun z => absurd hz z), k2⟩
  · obtain ⟨v, h2, k1, k2⟩ := kf hz; exact ⟨v, h2, n_ic_gt tgt hd ht ha hb (fun z => absurd z hz) (fun _ => k1), k2⟩
theorem Eb_if_le {x : Int32} {off : Int} (tgt : Nat) (hd : decode M.2.1 pc = .ok (.ifCond .le off, 3)) (ht : (pc : Int) + off = (tgt : Int)) (kt : x ≤ 0 →  am_E d M tgt l st h Ps) (kf : ¬ x ≤ 0 →  am_E d M (pc + 3) l st h Ps) : am_E d M pc l (.int x :: st) h Ps := by
  by_cases hz : x ≤ 0
  · obtain ⟨v, h2, k1, k2⟩ := kt hz; exact ⟨v, h2, b_if_le tgt hd ht (fun _ => k1) (fun z => absurd hz z), k2⟩
  · obtain ⟨v, h2, k1, k2⟩ := kf hz; exact ⟨v, h2, b_if_le tgt hd ht (fun z => absurd z hz) (fun _ => k1), k2⟩
theorem Et_if_le {x : Int32} {off : Int} (tgt : Nat) (hd : decode M.2.1 pc = .ok (.ifCond .le off, 3)) (ht : (pc : Int) + off = (tgt : Int)) (hc : x ≤ 0) (k : am_E d M tgt l st h Ps) : am_E d M pc l (.int x :: st) h Ps := by
  obtain ⟨v2, hz2, k1, k2⟩ := k
  exact ⟨v2, hz2, t_if_le tgt hd ht hc k1, k2⟩
theorem Ef_if_le {x : Int32} {off : Int} {tgt : Nat} (hd : decode M.2.1 pc = .ok (.ifCond .le off, 3)) (ht : (pc : Int) + off = (tgt : Int)) (hc : ¬ x ≤ 0) (k : am_E d M (pc + 3) l st h Ps) : am_E d M pc l (.int x :: st) h Ps := by
  obtain ⟨v2, hz2, k1, k2⟩ := k
  exact ⟨v2, hz2, f_if_le hd ht hc k1, k2⟩
theorem Eb_ic_le {x y : Int32} {off : Int} (tgt : Nat) (hd : decode M.2.1 pc = .ok (.if_icmp .le off, 3)) (ht : (pc : Int) + off = (tgt : Int)) (kt : x ≤ y →  am_E d M tgt l st h Ps) (kf : ¬ x ≤ y →  am_E d M (pc + 3) l st h Ps) : am_E d M pc l (.int y :: .int x :: st) h Ps := by
  by_cases hz : x ≤ y
  · obtain ⟨v, h2, k1, k2⟩ := kt hz; exact ⟨v, h2, b_ic_le tgt hd ht (fun _ => k1) (fun z => absurd hz z), k2⟩
  · obtain ⟨v, h2, k1, k2⟩ := kf hz; exact ⟨v, h2, b_ic_le tgt hd ht (fun z => absurd z hz) (fun _ => k1), k2⟩
theorem Et_ic_le {x y : Int32} {off : Int} (tgt : Nat) (hd : decode M.2.1 pc = .ok (.if_icmp .le off, 3)) (ht : (pc : Int) + off = (tgt : Int)) (hc : x ≤ y) (k : am_E d M tgt l st h Ps) : am_E d M pc l (.int y :: .int x :: st) h Ps := by
  obtain ⟨v2, hz2, k1, k2⟩ := k
  exact ⟨v2, hz2, t_ic_le tgt hd ht hc k1, k2⟩
theorem Ef_ic_le {x y : Int32} {off : Int} {tgt : Nat} (hd : decode M.2.1 pc = .ok (.if_icmp .le off, 3)) (ht : (pc : Int) + off = (tgt : Int)) (hc : ¬ x ≤ y) (k : am_E d M (pc + 3) l st h Ps) : am_E d M pc l (.int y :: .int x :: st) h Ps := by
  obtain ⟨v2, hz2, k1, k2⟩ := k
  exact ⟨v2, hz2, f_ic_le hd ht hc k1, k2⟩
theorem En_ic_le {a b : Nat} {off : Int} (tgt : Nat) (hd : decode M.2.1 pc = .ok (.if_icmp .le off, 3)) (ht : (pc : Int) + off = (tgt : Int)) (ha : a < 2 ^ 31) (hb : b < 2 ^ 31) (kt : a ≤ b →  am_E d M tgt l st h Ps) (kf : ¬ a ≤ b →  am_E d M (pc + 3) l st h Ps) : am_E d M pc l (.int (nI b) :: .int (nI a) :: st) h Ps := by
  by_cases hz : a ≤ b
  · obtain ⟨v, h2, k1, k2⟩ := kt hz; exact ⟨v, h2, n_ic_le tgt hd ht ha hb (fun _ => k1) (fun z => absurd hz z), k2⟩
  · obtain ⟨v, h2, k1, k2⟩ := kf hz; exact ⟨v, h2, n_ic_le tgt hd ht ha hb (fun z => absurd z hz) (fun _ => k1), k2⟩
theorem En_if_lt {a : Nat} {off : Int} {tgt : Nat} (hd : decode M.2.1 pc = .ok (.ifCond .lt off, 3)) (ht : (pc : Int) + off = (tgt : Int)) (ha : a < 2 ^ 31) (k : am_E d M (pc + 3) l st h Ps) : am_E d M pc l (.int (nI a) :: st) h Ps := by
  obtain ⟨v2, hz2, k1, k2⟩ := k
  exact ⟨v2, hz2, n_if_lt hd ht ha k1, k2⟩
theorem En_if_ge {a : Nat} {off : Int} (tgt : Nat) (hd : decode M.2.1 pc = .ok (.ifCond .ge off, 3)) (ht : (pc : Int) + off = (tgt : Int)) (ha : a < 2 ^ 31) (k : am_E d M tgt l st h Ps) : am_E d M pc l (.int (nI a) :: st) h Ps := by
  obtain ⟨v2, hz2, k1, k2⟩ := k
  exact ⟨v2, hz2, n_if_ge tgt hd ht ha k1, k2⟩
theorem En_if_eq {a : Nat} {off : Int} (tgt : Nat) (hd : decode M.2.1 pc = .ok (.ifCond .eq off, 3)) (ht : (pc : Int) + off = (tgt : Int)) (ha : a < 2 ^ 31) (kt : a = 0 →  am_E d M tgt l st h Ps) (kf : ¬ a = 0 →  am_E d M (pc + 3) l st h Ps) : am_E d M pc l (.int (nI a) :: st) h Ps := by
  by_cases hz : a = 0
  · obtain ⟨v, h2, k1, k2⟩ := kt hz; exact ⟨v, h2, n_if_eq tgt hd ht ha (fun _ => k1) (fun z => absurd hz z), k2⟩
  · obtain ⟨v, h2, k1, k2⟩ := kf hz; exact ⟨v, h2, n_if_eq tgt hd ht ha (fun z => absurd z hz) (fun _ => k1), k2⟩
theorem En_if_ne {a : Nat} {off : Int} (tgt : Nat) (hd : decode M.2.1 pc = .ok (.ifCond .ne off, 3)) (ht : (pc : Int) + off = (tgt : Int)) (ha : a < 2 ^ 31) (kt : ¬ a = 0 →  am_E d M tgt l st h Ps) (kf : a = 0 →  am_E d M (pc + 3) l st h Ps) : am_E d M pc l (.int (nI a) :: st) h Ps := by
  by_cases hz : a = 0
  · obtain ⟨v, h2, k1, k2⟩ := kf hz; exact ⟨v, h2, n_if_ne tgt hd ht ha (fun z => absurd hz z) (fun _ => k1), k2⟩
  · obtain ⟨v, h2, k1, k2⟩ := kt hz; exact ⟨v, h2, n_if_ne tgt hd ht ha (fun _ => k1) (fun z => absurd z hz), k2⟩
theorem En_if_le {a : Nat} {off : Int} (tgt : Nat) (hd : decode M.2.1 pc = .ok (.ifCond .le off, 3)) (ht : (pc : Int) + off = (tgt : Int)) (ha : a < 2 ^ 31) (kt : a = 0 →  am_E d M tgt l st h Ps) (kf : ¬ a = 0 →  am_E d M (pc + 3) l st h Ps) : am_E d M pc l (.int (nI a) :: st) h Ps := by
  by_cases hz : a = 0
  · obtain ⟨v, h2, k1, k2⟩ := kt hz; exact ⟨v, h2, n_if_le tgt hd ht ha (fun _ => k1) (fun z => absurd hz z), k2⟩
  · obtain ⟨v, h2, k1, k2⟩ := kf hz; exact ⟨v, h2, n_if_le tgt hd ht ha (fun z => absurd z hz) (fun _ => k1), k2⟩
theorem En_if_gt {a : Nat} {off : Int} (tgt : Nat) (hd : decode M.2.1 pc = .ok (.ifCond .gt off, 3)) (ht : (pc : Int) + off = (tgt : Int)) (ha : a < 2 ^ 31) (kt : 0 < a →  am_E d M tgt l st h Ps) (kf : ¬ 0 < a →  am_E d M (pc + 3) l st h Ps) : am_E d M pc l (.int (nI a) :: st) h Ps := by
  by_cases hz : 0 < a
  · obtain ⟨v, h2, k1, k2⟩ := kt hz; exact ⟨v, h2, n_if_gt tgt hd ht ha (fun _ => k1) (fun z => absurd hz z), k2⟩
  · obtain ⟨v, h2, k1, k2⟩ := kf hz; exact ⟨v, h2, n_if_gt tgt hd ht ha (fun z => absurd z hz) (fun _ => k1), k2⟩
theorem Eq_getI {idx k0 j r n : Nat} {v : Int32} (hd : decode M.2.1 pc = .ok (.getfield idx, 3)) (hf : am_fl M.1.cls idx k0 j) (hs : am_s h r = some (k0, n)) (ht : am_fa h k0 r j = .int (am_i h r j)) (hv : am_i h r j = v) (k : am_E d M (pc + 3) l (.int v :: st) h Ps) : am_E d M pc l (.ref r :: st) h Ps := by
  obtain ⟨v2, hz2, k1, k2⟩ := k
  exact ⟨v2, hz2, q_getI hd hf hs ht hv k1, k2⟩
theorem Eq_getL {idx k0 j r n : Nat} {v : Int64} (hd : decode M.2.1 pc = .ok (.getfield idx, 3)) (hf : am_fl M.1.cls idx k0 j) (hs : am_s h r = some (k0, n)) (ht : am_fa h k0 r j = .long (am_l h r j)) (hv : am_l h r j = v) (k : am_E d M (pc + 3) l (.long v :: st) h Ps) : am_E d M pc l (.ref r :: st) h Ps := by
  obtain ⟨v2, hz2, k1, k2⟩ := k
  exact ⟨v2, hz2, q_getL hd hf hs ht hv k1, k2⟩
theorem Eq_getR {idx k0 j r n a : Nat} (hd : decode M.2.1 pc = .ok (.getfield idx, 3)) (hf : am_fl M.1.cls idx k0 j) (hs : am_s h r = some (k0, n)) (ht : am_fa h k0 r j = am_rv (am_p h r j)) (hv : am_p h r j = some a) (k : am_E d M (pc + 3) l (.ref a :: st) h Ps) : am_E d M pc l (.ref r :: st) h Ps := by
  obtain ⟨v2, hz2, k1, k2⟩ := k
  exact ⟨v2, hz2, q_getR hd hf hs ht hv k1, k2⟩
theorem Eq_ald {r n j : Nat} {v : Int32} (hd : decode M.2.1 pc = .ok (.iaload, 1)) (hs : am_s h r = some (100, n)) (hj : j < n) (hn : n < 2 ^ 31) (hv : am_i h r j = v) (k : am_E d M (pc + 1) l (.int v :: st) h Ps) : am_E d M pc l (.int (nI j) :: .ref r :: st) h Ps := by
  obtain ⟨v2, hz2, k1, k2⟩ := k
  exact ⟨v2, hz2, q_ald hd hs hj hn hv k1, k2⟩
theorem Eq_lld {r n j : Nat} {v : Int64} (hd : decode M.2.1 pc = .ok (.laload, 1)) (hs : am_s h r = some (101, n)) (hj : j < n) (hn : n < 2 ^ 31) (hv : am_l h r j = v) (k : am_E d M (pc + 1) l (.long v :: st) h Ps) : am_E d M pc l (.int (nI j) :: .ref r :: st) h Ps := by
  obtain ⟨v2, hz2, k1, k2⟩ := k
  exact ⟨v2, hz2, q_lld hd hs hj hn hv k1, k2⟩
theorem Eq_zld {r n j : Nat} {v : Int32} (hd : decode M.2.1 pc = .ok (.baload, 1)) (hs : am_s h r = some (102, n)) (hj : j < n) (hn : n < 2 ^ 31) (hv : am_i h r j = v) (k : am_E d M (pc + 1) l (.int v :: st) h Ps) : am_E d M pc l (.int (nI j) :: .ref r :: st) h Ps := by
  obtain ⟨v2, hz2, k1, k2⟩ := k
  exact ⟨v2, hz2, q_zld hd hs hj hn hv k1, k2⟩
theorem Eq_ast {r n j : Nat} {v : Int32} (hd : decode M.2.1 pc = .ok (.iastore, 1)) (hs : am_s h r = some (100, n)) (hj : j < n) (hn : n < 2 ^ 31) (k : am_E d M (pc + 1) l st (am_wI h r j v) Ps) : am_E d M pc l (.int v :: .int (nI j) :: .ref r :: st) h Ps := by
  obtain ⟨v2, hz2, k1, k2⟩ := k
  exact ⟨v2, hz2, q_ast hd hs hj hn k1, k2⟩
theorem Eq_lst {r n j : Nat} {v : Int64} (hd : decode M.2.1 pc = .ok (.lastore, 1)) (hs : am_s h r = some (101, n)) (hj : j < n) (hn : n < 2 ^ 31) (k : am_E d M (pc + 1) l st (am_wL h r j v) Ps) : am_E d M pc l (.long v :: .int (nI j) :: .ref r :: st) h Ps := by
  obtain ⟨v2, hz2, k1, k2⟩ := k
  exact ⟨v2, hz2, q_lst hd hs hj hn k1, k2⟩
theorem Eq_zst {r n j : Nat} {v : Int32} (hd : decode M.2.1 pc = .ok (.bastore, 1)) (hs : am_s h r = some (102, n)) (hj : j < n) (hn : n < 2 ^ 31) (hv : v = 0 ∨ v = 1) (k : am_E d M (pc + 1) l st (am_wI h r j v) Ps) : am_E d M pc l (.int v :: .int (nI j) :: .ref r :: st) h Ps := by
  obtain ⟨v2, hz2, k1, k2⟩ := k
  exact ⟨v2, hz2, q_zst hd hs hj hn hv k1, k2⟩
theorem Eq_sld {i j : Nat} {v : Int32} (hd : decode M.2.1 pc = .ok (.iaload, 1)) (hi : i < 4) (hj : j < (am_sl i).length) (hn : (am_sl i).length < 2 ^ 31) (hv : (am_sl i).getD j 0 = v) (k : am_E d M (pc + 1) l (.int v :: st) h Ps) : am_E d M pc l (.int (nI j) :: .retAddr i :: st) h Ps := by
  obtain ⟨v2, hz2, k1, k2⟩ := k
  exact ⟨v2, hz2, q_sld hd hi hj hn hv k1, k2⟩
theorem Eq_ir {v : Int32} (hd : decode M.2.1 pc = .ok (.ireturn, 1)) (hr : M.2.2.2 = some .int) (hp : Ps (some (.int v)) h) : am_E d M pc l [.int v] h Ps := ⟨_, _, q_ir hd hr rfl, hp⟩
theorem Eq_zr {v : Int32} (hd : decode M.2.1 pc = .ok (.ireturn, 1)) (hr : M.2.2.2 = some .boolean) (hv : v = 0 ∨ v = 1) (hp : Ps (some (.int v)) h) : am_E d M pc l [.int v] h Ps := ⟨_, _, q_zr hd hr hv rfl, hp⟩
theorem Eq_lr {v : Int64} (hd : decode M.2.1 pc = .ok (.lreturn, 1)) (hr : M.2.2.2 = some .long) (hp : Ps (some (.long v)) h) : am_E d M pc l [.long v] h Ps := ⟨_, _, q_lr hd hr rfl, hp⟩
theorem Eq_vr (hd : decode M.2.1 pc = .ok (.return_, 1)) (hr : M.2.2.2 = none) (hp : Ps (none) h) : am_E d M pc l [] h Ps := ⟨_, _, q_vr hd hr rfl, hp⟩
theorem Eq_V0 {idx r k0 n0 d1 : Nat} {N : am_M} {v : Option Value} {h1 : am_H} {T : u_T} {fN : Nat} (hd : decode M.2.1 pc = .ok (.invokevirtual idx, 3)) (hlk : am_lk M.1.cls idx N.1) (hm : am_mV N 0) (hc : am_C d1 N (.ref r :: []) h (v, h1)) (hd1 : d1 < d) (hs : am_s h r = some (k0, n0)) (hcl : vwCl[k0]? = some (N.1.cls, T, fN)) (hk0 : k0 < 100) (hr : (st.map fun v => v.category).sum ≤ 8) (hlen : (am_ea (.ref r :: [])).length ≤ N.2.2.1) (k : am_E d M (pc + 3) l (v.toList ++ st) h1 Ps) : am_E d M pc l (.ref r :: st) h Ps := by
  obtain ⟨v2, hz2, k1, k2⟩ := k
  exact ⟨v2, hz2, q_V0 hd hlk hm hc hd1 hs hcl hk0 hr hlen k1, k2⟩
theorem Eq_S0 {idx d1 : Nat} {N : am_M} {v : Option Value} {h1 : am_H} (hd : decode M.2.1 pc = .ok (.invokestatic idx, 3)) (hlk : am_lk M.1.cls idx N.1) (hm : am_mS N 0) (hc : am_C d1 N [] h (v, h1)) (hd1 : d1 < d) (hr : (st.map fun v => v.category).sum ≤ 8) (hlen : (am_ea []).length ≤ N.2.2.1) (k : am_E d M (pc + 3) l (v.toList ++ st) h1 Ps) : am_E d M pc l (st) h Ps := by
  obtain ⟨v2, hz2, k1, k2⟩ := k
  exact ⟨v2, hz2, q_S0 hd hlk hm hc hd1 hr hlen k1, k2⟩
theorem Eq_I0 {idx r d1 : Nat} {N : am_M} {v : Option Value} {h1 : am_H} (hd : decode M.2.1 pc = .ok (.invokespecial idx, 3)) (hlk : am_lk M.1.cls idx N.1) (hm : am_mI N 0) (hc : am_C d1 N (.ref r :: []) h (v, h1)) (hd1 : d1 < d) (hr : (st.map fun v => v.category).sum ≤ 8) (hlen : (am_ea (.ref r :: [])).length ≤ N.2.2.1) (k : am_E d M (pc + 3) l (v.toList ++ st) h1 Ps) : am_E d M pc l (.ref r :: st) h Ps := by
  obtain ⟨v2, hz2, k1, k2⟩ := k
  exact ⟨v2, hz2, q_I0 hd hlk hm hc hd1 hr hlen k1, k2⟩
theorem Eq_V1 {idx r k0 n0 d1 : Nat} {N : am_M} {a1 : Value} {v : Option Value} {h1 : am_H} {T : u_T} {fN : Nat} (hd : decode M.2.1 pc = .ok (.invokevirtual idx, 3)) (hlk : am_lk M.1.cls idx N.1) (hm : am_mV N 1) (hc : am_C d1 N (.ref r :: [a1]) h (v, h1)) (hd1 : d1 < d) (hs : am_s h r = some (k0, n0)) (hcl : vwCl[k0]? = some (N.1.cls, T, fN)) (hk0 : k0 < 100) (hr : (st.map fun v => v.category).sum ≤ 8) (hlen : (am_ea (.ref r :: [a1])).length ≤ N.2.2.1) (k : am_E d M (pc + 3) l (v.toList ++ st) h1 Ps) : am_E d M pc l (a1 :: .ref r :: st) h Ps := by
  obtain ⟨v2, hz2, k1, k2⟩ := k
  exact ⟨v2, hz2, q_V1 hd hlk hm hc hd1 hs hcl hk0 hr hlen k1, k2⟩
theorem Eq_S1 {idx d1 : Nat} {N : am_M} {a1 : Value} {v : Option Value} {h1 : am_H} (hd : decode M.2.1 pc = .ok (.invokestatic idx, 3)) (hlk : am_lk M.1.cls idx N.1) (hm : am_mS N 1) (hc : am_C d1 N [a1] h (v, h1)) (hd1 : d1 < d) (hr : (st.map fun v => v.category).sum ≤ 8) (hlen : (am_ea [a1]).length ≤ N.2.2.1) (k : am_E d M (pc + 3) l (v.toList ++ st) h1 Ps) : am_E d M pc l (a1 :: st) h Ps := by
  obtain ⟨v2, hz2, k1, k2⟩ := k
  exact ⟨v2, hz2, q_S1 hd hlk hm hc hd1 hr hlen k1, k2⟩
theorem Eq_I1 {idx r d1 : Nat} {N : am_M} {a1 : Value} {v : Option Value} {h1 : am_H} (hd : decode M.2.1 pc = .ok (.invokespecial idx, 3)) (hlk : am_lk M.1.cls idx N.1) (hm : am_mI N 1) (hc : am_C d1 N (.ref r :: [a1]) h (v, h1)) (hd1 : d1 < d) (hr : (st.map fun v => v.category).sum ≤ 8) (hlen : (am_ea (.ref r :: [a1])).length ≤ N.2.2.1) (k : am_E d M (pc + 3) l (v.toList ++ st) h1 Ps) : am_E d M pc l (a1 :: .ref r :: st) h Ps := by
  obtain ⟨v2, hz2, k1, k2⟩ := k
  exact ⟨v2, hz2, q_I1 hd hlk hm hc hd1 hr hlen k1, k2⟩
theorem Eq_V2 {idx r k0 n0 d1 : Nat} {N : am_M} {a1 a2 : Value} {v : Option Value} {h1 : am_H} {T : u_T} {fN : Nat} (hd : decode M.2.1 pc = .ok (.invokevirtual idx, 3)) (hlk : am_lk M.1.cls idx N.1) (hm : am_mV N 2) (hc : am_C d1 N (.ref r :: [a1, a2]) h (v, h1)) (hd1 : d1 < d) (hs : am_s h r = some (k0, n0)) (hcl : vwCl[k0]? = some (N.1.cls, T, fN)) (hk0 : k0 < 100) (hr : (st.map fun v => v.category).sum ≤ 8) (hlen : (am_ea (.ref r :: [a1, a2])).length ≤ N.2.2.1) (k : am_E d M (pc + 3) l (v.toList ++ st) h1 Ps) : am_E d M pc l (a2 :: a1 :: .ref r :: st) h Ps := by
  obtain ⟨v2, hz2, k1, k2⟩ := k
  exact ⟨v2, hz2, q_V2 hd hlk hm hc hd1 hs hcl hk0 hr hlen k1, k2⟩
theorem Eq_S2 {idx d1 : Nat} {N : am_M} {a1 a2 : Value} {v : Option Value} {h1 : am_H} (hd : decode M.2.1 pc = .ok (.invokestatic idx, 3)) (hlk : am_lk M.1.cls idx N.1) (hm : am_mS N 2) (hc : am_C d1 N [a1, a2] h (v, h1)) (hd1 : d1 < d) (hr : (st.map fun v => v.category).sum ≤ 8) (hlen : (am_ea [a1, a2]).length ≤ N.2.2.1) (k : am_E d M (pc + 3) l (v.toList ++ st) h1 Ps) : am_E d M pc l (a2 :: a1 :: st) h Ps := by
  obtain ⟨v2, hz2, k1, k2⟩ := k
  exact ⟨v2, hz2, q_S2 hd hlk hm hc hd1 hr hlen k1, k2⟩
theorem Eq_I2 {idx r d1 : Nat} {N : am_M} {a1 a2 : Value} {v : Option Value} {h1 : am_H} (hd : decode M.2.1 pc = .ok (.invokespecial idx, 3)) (hlk : am_lk M.1.cls idx N.1) (hm : am_mI N 2) (hc : am_C d1 N (.ref r :: [a1, a2]) h (v, h1)) (hd1 : d1 < d) (hr : (st.map fun v => v.category).sum ≤ 8) (hlen : (am_ea (.ref r :: [a1, a2])).length ≤ N.2.2.1) (k : am_E d M (pc + 3) l (v.toList ++ st) h1 Ps) : am_E d M pc l (a2 :: a1 :: .ref r :: st) h Ps := by
  obtain ⟨v2, hz2, k1, k2⟩ := k
  exact ⟨v2, hz2, q_I2 hd hlk hm hc hd1 hr hlen k1, k2⟩
theorem Eq_V3 {idx r k0 n0 d1 : Nat} {N : am_M} {a1 a2 a3 : Value} {v : Option Value} {h1 : am_H} {T : u_T} {fN : Nat} (hd : decode M.2.1 pc = .ok (.invokevirtual idx, 3)) (hlk : am_lk M.1.cls idx N.1) (hm : am_mV N 3) (hc : am_C d1 N (.ref r :: [a1, a2, a3]) h (v, h1)) (hd1 : d1 < d) (hs : am_s h r = some (k0, n0)) (hcl : vwCl[k0]? = some (N.1.cls, T, fN)) (hk0 : k0 < 100) (hr : (st.map fun v => v.category).sum ≤ 8) (hlen : (am_ea (.ref r :: [a1, a2, a3])).length ≤ N.2.2.1) (k : am_E d M (pc + 3) l (v.toList ++ st) h1 Ps) : am_E d M pc l (a3 :: a2 :: a1 :: .ref r :: st) h Ps := by
  obtain ⟨v2, hz2, k1, k2⟩ := k
  exact ⟨v2, hz2, q_V3 hd hlk hm hc hd1 hs hcl hk0 hr hlen k1, k2⟩
theorem Eq_S3 {idx d1 : Nat} {N : am_M} {a1 a2 a3 : Value} {v : Option Value} {h1 : am_H} (hd : decode M.2.1 pc = .ok (.invokestatic idx, 3)) (hlk : am_lk M.1.cls idx N.1) (hm : am_mS N 3) (hc : am_C d1 N [a1, a2, a3] h (v, h1)) (hd1 : d1 < d) (hr : (st.map fun v => v.category).sum ≤ 8) (hlen : (am_ea [a1, a2, a3]).length ≤ N.2.2.1) (k : am_E d M (pc + 3) l (v.toList ++ st) h1 Ps) : am_E d M pc l (a3 :: a2 :: a1 :: st) h Ps := by
  obtain ⟨v2, hz2, k1, k2⟩ := k
  exact ⟨v2, hz2, q_S3 hd hlk hm hc hd1 hr hlen k1, k2⟩
theorem Eq_I3 {idx r d1 : Nat} {N : am_M} {a1 a2 a3 : Value} {v : Option Value} {h1 : am_H} (hd : decode M.2.1 pc = .ok (.invokespecial idx, 3)) (hlk : am_lk M.1.cls idx N.1) (hm : am_mI N 3) (hc : am_C d1 N (.ref r :: [a1, a2, a3]) h (v, h1)) (hd1 : d1 < d) (hr : (st.map fun v => v.category).sum ≤ 8) (hlen : (am_ea (.ref r :: [a1, a2, a3])).length ≤ N.2.2.1) (k : am_E d M (pc + 3) l (v.toList ++ st) h1 Ps) : am_E d M pc l (a3 :: a2 :: a1 :: .ref r :: st) h Ps := by
  obtain ⟨v2, hz2, k1, k2⟩ := k
  exact ⟨v2, hz2, q_I3 hd hlk hm hc hd1 hr hlen k1, k2⟩
theorem Eq_V4 {idx r k0 n0 d1 : Nat} {N : am_M} {a1 a2 a3 a4 : Value} {v : Option Value} {h1 : am_H} {T : u_T} {fN : Nat} (hd : decode M.2.1 pc = .ok (.invokevirtual idx, 3)) (hlk : am_lk M.1.cls idx N.1) (hm : am_mV N 4) (hc : am_C d1 N (.ref r :: [a1, a2, a3, a4]) h (v, h1)) (hd1 : d1 < d) (hs : am_s h r = some (k0, n0)) (hcl : vwCl[k0]? = some (N.1.cls, T, fN)) (hk0 : k0 < 100) (hr : (st.map fun v => v.category).sum ≤ 8) (hlen : (am_ea (.ref r :: [a1, a2, a3, a4])).length ≤ N.2.2.1) (k : am_E d M (pc + 3) l (v.toList ++ st) h1 Ps) : am_E d M pc l (a4 :: a3 :: a2 :: a1 :: .ref r :: st) h Ps := by
  obtain ⟨v2, hz2, k1, k2⟩ := k
  exact ⟨v2, hz2, q_V4 hd hlk hm hc hd1 hs hcl hk0 hr hlen k1, k2⟩
theorem Eq_S4 {idx d1 : Nat} {N : am_M} {a1 a2 a3 a4 : Value} {v : Option Value} {h1 : am_H} (hd : decode M.2.1 pc = .ok (.invokestatic idx, 3)) (hlk : am_lk M.1.cls idx N.1) (hm : am_mS N 4) (hc : am_C d1 N [a1, a2, a3, a4] h (v, h1)) (hd1 : d1 < d) (hr : (st.map fun v => v.category).sum ≤ 8) (hlen : (am_ea [a1, a2, a3, a4]).length ≤ N.2.2.1) (k : am_E d M (pc + 3) l (v.toList ++ st) h1 Ps) : am_E d M pc l (a4 :: a3 :: a2 :: a1 :: st) h Ps := by
  obtain ⟨v2, hz2, k1, k2⟩ := k
  exact ⟨v2, hz2, q_S4 hd hlk hm hc hd1 hr hlen k1, k2⟩
theorem Eq_V5 {idx r k0 n0 d1 : Nat} {N : am_M} {a1 a2 a3 a4 a5 : Value} {v : Option Value} {h1 : am_H} {T : u_T} {fN : Nat} (hd : decode M.2.1 pc = .ok (.invokevirtual idx, 3)) (hlk : am_lk M.1.cls idx N.1) (hm : am_mV N 5) (hc : am_C d1 N (.ref r :: [a1, a2, a3, a4, a5]) h (v, h1)) (hd1 : d1 < d) (hs : am_s h r = some (k0, n0)) (hcl : vwCl[k0]? = some (N.1.cls, T, fN)) (hk0 : k0 < 100) (hr : (st.map fun v => v.category).sum ≤ 8) (hlen : (am_ea (.ref r :: [a1, a2, a3, a4, a5])).length ≤ N.2.2.1) (k : am_E d M (pc + 3) l (v.toList ++ st) h1 Ps) : am_E d M pc l (a5 :: a4 :: a3 :: a2 :: a1 :: .ref r :: st) h Ps := by
  obtain ⟨v2, hz2, k1, k2⟩ := k
  exact ⟨v2, hz2, q_V5 hd hlk hm hc hd1 hs hcl hk0 hr hlen k1, k2⟩
theorem Eq_S5 {idx d1 : Nat} {N : am_M} {a1 a2 a3 a4 a5 : Value} {v : Option Value} {h1 : am_H} (hd : decode M.2.1 pc = .ok (.invokestatic idx, 3)) (hlk : am_lk M.1.cls idx N.1) (hm : am_mS N 5) (hc : am_C d1 N [a1, a2, a3, a4, a5] h (v, h1)) (hd1 : d1 < d) (hr : (st.map fun v => v.category).sum ≤ 8) (hlen : (am_ea [a1, a2, a3, a4, a5]).length ≤ N.2.2.1) (k : am_E d M (pc + 3) l (v.toList ++ st) h1 Ps) : am_E d M pc l (a5 :: a4 :: a3 :: a2 :: a1 :: st) h Ps := by
  obtain ⟨v2, hz2, k1, k2⟩ := k
  exact ⟨v2, hz2, q_S5 hd hlk hm hc hd1 hr hlen k1, k2⟩
theorem Eq_V6 {idx r k0 n0 d1 : Nat} {N : am_M} {a1 a2 a3 a4 a5 a6 : Value} {v : Option Value} {h1 : am_H} {T : u_T} {fN : Nat} (hd : decode M.2.1 pc = .ok (.invokevirtual idx, 3)) (hlk : am_lk M.1.cls idx N.1) (hm : am_mV N 6) (hc : am_C d1 N (.ref r :: [a1, a2, a3, a4, a5, a6]) h (v, h1)) (hd1 : d1 < d) (hs : am_s h r = some (k0, n0)) (hcl : vwCl[k0]? = some (N.1.cls, T, fN)) (hk0 : k0 < 100) (hr : (st.map fun v => v.category).sum ≤ 8) (hlen : (am_ea (.ref r :: [a1, a2, a3, a4, a5, a6])).length ≤ N.2.2.1) (k : am_E d M (pc + 3) l (v.toList ++ st) h1 Ps) : am_E d M pc l (a6 :: a5 :: a4 :: a3 :: a2 :: a1 :: .ref r :: st) h Ps := by
  obtain ⟨v2, hz2, k1, k2⟩ := k
  exact ⟨v2, hz2, q_V6 hd hlk hm hc hd1 hs hcl hk0 hr hlen k1, k2⟩
theorem Eq_S6 {idx d1 : Nat} {N : am_M} {a1 a2 a3 a4 a5 a6 : Value} {v : Option Value} {h1 : am_H} (hd : decode M.2.1 pc = .ok (.invokestatic idx, 3)) (hlk : am_lk M.1.cls idx N.1) (hm : am_mS N 6) (hc : am_C d1 N [a1, a2, a3, a4, a5, a6] h (v, h1)) (hd1 : d1 < d) (hr : (st.map fun v => v.category).sum ≤ 8) (hlen : (am_ea [a1, a2, a3, a4, a5, a6]).length ≤ N.2.2.1) (k : am_E d M (pc + 3) l (v.toList ++ st) h1 Ps) : am_E d M pc l (a6 :: a5 :: a4 :: a3 :: a2 :: a1 :: st) h Ps := by
  obtain ⟨v2, hz2, k1, k2⟩ := k
  exact ⟨v2, hz2, q_S6 hd hlk hm hc hd1 hr hlen k1, k2⟩
theorem Eq_max {idx : Nat} {x y : Int32} (hd : decode M.2.1 pc = .ok (.invokestatic idx, 3)) (h1 : Cond.methodLink M.1.cls idx Lib.Math.max.name ∈ lw_tbl) (h2 : Cond.static Lib.Math.max.name ∈ lw_tbl) (h3 : Cond.initialized "java/lang/Math" ∈ lw_tbl) (h4 : Cond.code Lib.Math.max.name Lib.Math.max.code 2 (some .int) ∈ lw_tbl) (hdd : 1 ≤ d) (hr : (st.map fun v => v.category).sum ≤ 8) (k : am_E d M (pc + 3) l (.int (if x < y then y else x) :: st) h Ps) : am_E d M pc l (.int y :: .int x :: st) h Ps := by
  obtain ⟨v2, hz2, k1, k2⟩ := k
  exact ⟨v2, hz2, q_max hd h1 h2 h3 h4 hdd hr k1, k2⟩
theorem Eq_min {idx : Nat} {x y : Int32} (hd : decode M.2.1 pc = .ok (.invokestatic idx, 3)) (h1 : Cond.methodLink M.1.cls idx Lib.Math.min.name ∈ lw_tbl) (h2 : Cond.static Lib.Math.min.name ∈ lw_tbl) (h3 : Cond.initialized "java/lang/Math" ∈ lw_tbl) (h4 : Cond.code Lib.Math.min.name Lib.Math.min.code 2 (some .int) ∈ lw_tbl) (hdd : 1 ≤ d) (hr : (st.map fun v => v.category).sum ≤ 8) (k : am_E d M (pc + 3) l (.int (if y < x then y else x) :: st) h Ps) : am_E d M pc l (.int y :: .int x :: st) h Ps := by
  obtain ⟨v2, hz2, k1, k2⟩ := k
  exact ⟨v2, hz2, q_min hd h1 h2 h3 h4 hdd hr k1, k2⟩
theorem Eq_maxL {idx : Nat} {x y : Int64} (hd : decode M.2.1 pc = .ok (.invokestatic idx, 3)) (h1 : Cond.methodLink M.1.cls idx Lib.MathLoose.max_long.x ∈ lw_tbl) (h2 : Cond.static Lib.MathLoose.max_long.x ∈ lw_tbl) (h3 : Cond.initialized "java/lang/Math" ∈ lw_tbl) (h4 : Cond.code Lib.MathLoose.max_long.x Lib.MathLoose.max_long.code 4 (some .long) ∈ lw_tbl) (hdd : 1 ≤ d) (hr : (st.map fun v => v.category).sum ≤ 8) (k : am_E d M (pc + 3) l (.long (if y < x then x else y) :: st) h Ps) : am_E d M pc l (.long y :: .long x :: st) h Ps := by
  obtain ⟨v2, hz2, k1, k2⟩ := k
  exact ⟨v2, hz2, q_maxL hd h1 h2 h3 h4 hdd hr k1, k2⟩
theorem Eq_minL {idx : Nat} {x y : Int64} (hd : decode M.2.1 pc = .ok (.invokestatic idx, 3)) (h1 : Cond.methodLink M.1.cls idx Lib.MathLoose.min_long.x ∈ lw_tbl) (h2 : Cond.static Lib.MathLoose.min_long.x ∈ lw_tbl) (h3 : Cond.initialized "java/lang/Math" ∈ lw_tbl) (h4 : Cond.code Lib.MathLoose.min_long.x Lib.MathLoose.min_long.code 4 (some .long) ∈ lw_tbl) (hdd : 1 ≤ d) (hr : (st.map fun v => v.category).sum ≤ 8) (k : am_E d M (pc + 3) l (.long (if y < x then y else x) :: st) h Ps) : am_E d M pc l (.long y :: .long x :: st) h Ps := by
  obtain ⟨v2, hz2, k1, k2⟩ := k
  exact ⟨v2, hz2, q_minL hd h1 h2 h3 h4 hdd hr k1, k2⟩
theorem Eq_shl1 {s : Nat} (hd : decode M.2.1 pc = .ok (.ishl, 1)) (hs : s < 31) (k : am_E d M (pc + 1) l (.int (nI (2 ^ s)) :: st) h Ps) : am_E d M pc l (.int (nI s) :: .int (nI 1) :: st) h Ps := by
  obtain ⟨v2, hz2, k1, k2⟩ := k
  exact ⟨v2, hz2, q_shl1 hd hs k1, k2⟩
theorem Eq_i2l {a : Nat} (hd : decode M.2.1 pc = .ok (.i2l, 1)) (ha : a < 2 ^ 31) (k : am_E d M (pc + 1) l (.long (lN a) :: st) h Ps) : am_E d M pc l (.int (nI a) :: st) h Ps := by
  obtain ⟨v2, hz2, k1, k2⟩ := k
  exact ⟨v2, hz2, q_i2l hd ha k1, k2⟩
theorem Eq_lmul {a b : Nat} (hd : decode M.2.1 pc = .ok (.lmul, 1)) (k : am_E d M (pc + 1) l (.long (lN (a * b)) :: st) h Ps) : am_E d M pc l (.long (lN b) :: .long (lN a) :: st) h Ps := by
  obtain ⟨v2, hz2, k1, k2⟩ := k
  exact ⟨v2, hz2, q_lmul hd k1, k2⟩
theorem Eq_ladd {a b : Nat} (hd : decode M.2.1 pc = .ok (.ladd, 1)) (k : am_E d M (pc + 1) l (.long (lN (a + b)) :: st) h Ps) : am_E d M pc l (.long (lN b) :: .long (lN a) :: st) h Ps := by
  obtain ⟨v2, hz2, k1, k2⟩ := k
  exact ⟨v2, hz2, q_ladd hd k1, k2⟩
theorem Eq_lsub {a b : Nat} (hd : decode M.2.1 pc = .ok (.lsub, 1)) (hb : b ≤ a) (k : am_E d M (pc + 1) l (.long (lN (a - b)) :: st) h Ps) : am_E d M pc l (.long (lN b) :: .long (lN a) :: st) h Ps := by
  obtain ⟨v2, hz2, k1, k2⟩ := k
  exact ⟨v2, hz2, q_lsub hd hb k1, k2⟩
theorem Eq_dk {i j : Nat} (hd : decode M.2.1 pc = .ok (.iinc i (-1), 3)) (hv : l[i]? = some (some (.int (nI j)))) (hn : i < M.2.2.1) (k : am_E d M (pc + 3) (am_s1 l i (.int (dk j))) st h Ps) : am_E d M pc l st h Ps := by
  obtain ⟨v2, hz2, k1, k2⟩ := k
  exact ⟨v2, hz2, q_dk hd hv hn k1, k2⟩
theorem Eq_zrn {a : Nat} (hd : decode M.2.1 pc = .ok (.ireturn, 1)) (hr : M.2.2.2 = some .boolean) (ha : a ≤ 1) (hp : Ps (some (.int (nI a))) h) : am_E d M pc l [.int (nI a)] h Ps := ⟨_, _, q_zrn hd hr ha rfl, hp⟩
theorem Ep_if_eq {P : Prop} [Decidable P] {off : Int} (tgt : Nat) (hd : decode M.2.1 pc = .ok (.ifCond .eq off, 3)) (ht : (pc : Int) + off = (tgt : Int)) (kt : ¬ P →  am_E d M tgt l st h Ps) (kf : P →  am_E d M (pc + 3) l st h Ps) : am_E d M pc l (.int (nI (if P then 1 else 0)) :: st) h Ps := by
  by_cases hz : P
  · obtain ⟨v, h2, k1, k2⟩ := kf hz; exact ⟨v, h2, p_if_eq tgt hd ht (fun z => absurd hz z) (fun _ => k1), k2⟩
  · obtain ⟨v, h2, k1, k2⟩ := kt hz; exact ⟨v, h2, p_if_eq tgt hd ht (fun _ => k1) (fun z => absurd z hz), k2⟩
theorem Ep_if_ne {P : Prop} [Decidable P] {off : Int} (tgt : Nat) (hd : decode M.2.1 pc = .ok (.ifCond .ne off, 3)) (ht : (pc : Int) + off = (tgt : Int)) (kt : P →  am_E d M tgt l st h Ps) (kf : ¬ P →  am_E d M (pc + 3) l st h Ps) : am_E d M pc l (.int (nI (if P then 1 else 0)) :: st) h Ps := by
  by_cases hz : P
  · obtain ⟨v, h2, k1, k2⟩ := kt hz; exact ⟨v, h2, p_if_ne tgt hd ht (fun _ => k1) (fun z => absurd hz z), k2⟩
  · obtain ⟨v, h2, k1, k2⟩ := kf hz; exact ⟨v, h2, p_if_ne tgt hd ht (fun z => absurd z hz) (fun _ => k1), k2⟩
theorem Em_ic_eq {x : Option Nat} {off : Int} (tgt : Nat) (hd : decode M.2.1 pc = .ok (.if_icmp .eq off, 3)) (ht : (pc : Int) + off = (tgt : Int)) (hx : ∀ k, x = some k → k < 2 ^ 31) (kt : x = none →  am_E d M tgt l st h Ps) (kf : ∀ k, x = some k →  am_E d M (pc + 3) l st h Ps) : am_E d M pc l (.int (-1) :: .int (oN x) :: st) h Ps := by
  cases x with
  | none => obtain ⟨v, h2, k1, k2⟩ := kt rfl; exact ⟨v, h2, m_ic_eq tgt hd ht hx (fun _ => k1) (fun w hw => nomatch hw), k2⟩
  | some w => obtain ⟨v, h2, k1, k2⟩ := kf w rfl; exact ⟨v, h2, m_ic_eq tgt hd ht hx (fun hw => nomatch hw) (fun _ _ => k1), k2⟩
theorem Em_ic_ne {x : Option Nat} {off : Int} (tgt : Nat) (hd : decode M.2.1 pc = .ok (.if_icmp .ne off, 3)) (ht : (pc : Int) + off = (tgt : Int)) (hx : ∀ k, x = some k → k < 2 ^ 31) (kt : ∀ k, x = some k →  am_E d M tgt l st h Ps) (kf : x = none →  am_E d M (pc + 3) l st h Ps) : am_E d M pc l (.int (-1) :: .int (oN x) :: st) h Ps := by
  cases x with
  | none => obtain ⟨v, h2, k1, k2⟩ := kf rfl; exact ⟨v, h2, m_ic_ne tgt hd ht hx (fun w hw => nomatch hw) (fun _ => k1), k2⟩
  | some w => obtain ⟨v, h2, k1, k2⟩ := kt w rfl; exact ⟨v, h2, m_ic_ne tgt hd ht hx (fun _ _ => k1) (fun hw => nomatch hw), k2⟩
theorem Eq_W0 {idx r k0 n0 d1 : Nat} {N : am_M} {Q : Option Value → am_H → Prop} {T : u_T} {fN : Nat} (hd : decode M.2.1 pc = .ok (.invokevirtual idx, 3)) (hlk : am_lk M.1.cls idx N.1) (hm : am_mV N 0) (hc : am_D d1 N (.ref r :: []) h Q) (hd1 : d1 < d) (hs : am_s h r = some (k0, n0)) (hcl : vwCl[k0]? = some (N.1.cls, T, fN)) (hk0 : k0 < 100) (hr : (st.map fun v => v.category).sum ≤ 8) (hlen : (am_ea (.ref r :: [])).length ≤ N.2.2.1) (k : ∀ v h1, Q v h1 → am_E d M (pc + 3) l (v.toList ++ st) h1 Ps) : am_E d M pc l (.ref r :: st) h Ps := by
  obtain ⟨v, h1, c1, c2⟩ := hc
  exact Eq_V0 hd hlk hm c1 hd1 hs hcl hk0 hr hlen (k v h1 c2)
theorem Eq_T0 {idx d1 : Nat} {N : am_M} {Q : Option Value → am_H → Prop} (hd : decode M.2.1 pc = .ok (.invokestatic idx, 3)) (hlk : am_lk M.1.cls idx N.1) (hm : am_mS N 0) (hc : am_D d1 N [] h Q) (hd1 : d1 < d) (hr : (st.map fun v => v.category).sum ≤ 8) (hlen : (am_ea []).length ≤ N.2.2.1) (k : ∀ v h1, Q v h1 → am_E d M (pc + 3) l (v.toList ++ st) h1 Ps) : am_E d M pc l (st) h Ps := by
  obtain ⟨v, h1, c1, c2⟩ := hc
  exact Eq_S0 hd hlk hm c1 hd1 hr hlen (k v h1 c2)
theorem Eq_W1 {idx r k0 n0 d1 : Nat} {N : am_M} {a1 : Value} {Q : Option Value → am_H → Prop} {T : u_T} {fN : Nat} (hd : decode M.2.1 pc = .ok (.invokevirtual idx, 3)) (hlk : am_lk M.1.cls idx N.1) (hm : am_mV N 1) (hc : am_D d1 N (.ref r :: [a1]) h Q) (hd1 : d1 < d) (hs : am_s h r = some (k0, n0)) (hcl : vwCl[k0]? = some (N.1.cls, T, fN)) (hk0 : k0 < 100) (hr : (st.map fun v => v.category).sum ≤ 8) (hlen : (am_ea (.ref r :: [a1])).length ≤ N.2.2.1) (k : ∀ v h1, Q v h1 → am_E d M (pc + 3) l (v.toList ++ st) h1 Ps) : am_E d M pc l (a1 :: .ref r :: st) h Ps := by
  obtain ⟨v, h1, c1, c2⟩ := hc
  exact Eq_V1 hd hlk hm c1 hd1 hs hcl hk0 hr hlen (k v h1 c2)
theorem Eq_T1 {idx d1 : Nat} {N : am_M} {a1 : Value} {Q : Option Value → am_H → Prop} (hd : decode M.2.1 pc = .ok (.invokestatic idx, 3)) (hlk : am_lk M.1.cls idx N.1) (hm : am_mS N 1) (hc : am_D d1 N [a1] h Q) (hd1 : d1 < d) (hr : (st.map fun v => v.category).sum ≤ 8) (hlen : (am_ea [a1]).length ≤ N.2.2.1) (k : ∀ v h1, Q v h1 → am_E d M (pc + 3) l (v.toList ++ st) h1 Ps) : am_E d M pc l (a1 :: st) h Ps := by
  obtain ⟨v, h1, c1, c2⟩ := hc
  exact Eq_S1 hd hlk hm c1 hd1 hr hlen (k v h1 c2)
theorem Eq_W2 {idx r k0 n0 d1 : Nat} {N : am_M} {a1 a2 : Value} {Q : Option Value → am_H → Prop} {T : u_T} {fN : Nat} (hd : decode M.2.1 pc = .ok (.invokevirtual idx, 3)) (hlk : am_lk M.1.cls idx N.1) (hm : am_mV N 2) (hc : am_D d1 N (.ref r :: [a1, a2]) h Q) (hd1 : d1 < d) (hs : am_s h r = some (k0, n0)) (hcl : vwCl[k0]? = some (N.1.cls, T, fN)) (hk0 : k0 < 100) (hr : (st.map fun v => v.category).sum ≤ 8) (hlen : (am_ea (.ref r :: [a1, a2])).length ≤ N.2.2.1) (k : ∀ v h1, Q v h1 → am_E d M (pc + 3) l (v.toList ++ st) h1 Ps) : am_E d M pc l (a2 :: a1 :: .ref r :: st) h Ps := by
  obtain ⟨v, h1, c1, c2⟩ := hc
  exact Eq_V2 hd hlk hm c1 hd1 hs hcl hk0 hr hlen (k v h1 c2)
theorem Eq_T2 {idx d1 : Nat} {N : am_M} {a1 a2 : Value} {Q : Option Value → am_H → Prop} (hd : decode M.2.1 pc = .ok (.invokestatic idx, 3)) (hlk : am_lk M.1.cls idx N.1) (hm : am_mS N 2) (hc : am_D d1 N [a1, a2] h Q) (hd1 : d1 < d) (hr : (st.map fun v => v.category).sum ≤ 8) (hlen : (am_ea [a1, a2]).length ≤ N.2.2.1) (k : ∀ v h1, Q v h1 → am_E d M (pc + 3) l (v.toList ++ st) h1 Ps) : am_E d M pc l (a2 :: a1 :: st) h Ps := by
  obtain ⟨v, h1, c1, c2⟩ := hc
  exact Eq_S2 hd hlk hm c1 hd1 hr hlen (k v h1 c2)
theorem Eq_W3 {idx r k0 n0 d1 : Nat} {N : am_M} {a1 a2 a3 : Value} {Q : Option Value → am_H → Prop} {T : u_T} {fN : Nat} (hd : decode M.2.1 pc = .ok (.invokevirtual idx, 3)) (hlk : am_lk M.1.cls idx N.1) (hm : am_mV N 3) (hc : am_D d1 N (.ref r :: [a1, a2, a3]) h Q) (hd1 : d1 < d) (hs : am_s h r = some (k0, n0)) (hcl : vwCl[k0]? = some (N.1.cls, T, fN)) (hk0 : k0 < 100) (hr : (st.map fun v => v.category).sum ≤ 8) (hlen : (am_ea (.ref r :: [a1, a2, a3])).length ≤ N.2.2.1) (k : ∀ v h1, Q v h1 → am_E d M (pc + 3) l (v.toList ++ st) h1 Ps) : am_E d M pc l (a3 :: a2 :: a1 :: .ref r :: st) h Ps := by
  obtain ⟨v, h1, c1, c2⟩ := hc
  exact Eq_V3 hd hlk hm c1 hd1 hs hcl hk0 hr hlen (k v h1 c2)
theorem Eq_T3 {idx d1 : Nat} {N : am_M} {a1 a2 a3 : Value} {Q : Option Value → am_H → Prop} (hd : decode M.2.1 pc = .ok (.invokestatic idx, 3)) (hlk : am_lk M.1.cls idx N.1) (hm : am_mS N 3) (hc : am_D d1 N [a1, a2, a3] h Q) (hd1 : d1 < d) (hr : (st.map fun v => v.category).sum ≤ 8) (hlen : (am_ea [a1, a2, a3]).length ≤ N.2.2.1) (k : ∀ v h1, Q v h1 → am_E d M (pc + 3) l (v.toList ++ st) h1 Ps) : am_E d M pc l (a3 :: a2 :: a1 :: st) h Ps := by
  obtain ⟨v, h1, c1, c2⟩ := hc
  exact Eq_S3 hd hlk hm c1 hd1 hr hlen (k v h1 c2)
theorem Eq_W4 {idx r k0 n0 d1 : Nat} {N : am_M} {a1 a2 a3 a4 : Value} {Q : Option Value → am_H → Prop} {T : u_T} {fN : Nat} (hd : decode M.2.1 pc = .ok (.invokevirtual idx, 3)) (hlk : am_lk M.1.cls idx N.1) (hm : am_mV N 4) (hc : am_D d1 N (.ref r :: [a1, a2, a3, a4]) h Q) (hd1 : d1 < d) (hs : am_s h r = some (k0, n0)) (hcl : vwCl[k0]? = some (N.1.cls, T, fN)) (hk0 : k0 < 100) (hr : (st.map fun v => v.category).sum ≤ 8) (hlen : (am_ea (.ref r :: [a1, a2, a3, a4])).length ≤ N.2.2.1) (k : ∀ v h1, Q v h1 → am_E d M (pc + 3) l (v.toList ++ st) h1 Ps) : am_E d M pc l (a4 :: a3 :: a2 :: a1 :: .ref r :: st) h Ps := by
  obtain ⟨v, h1, c1, c2⟩ := hc
  exact Eq_V4 hd hlk hm c1 hd1 hs hcl hk0 hr hlen (k v h1 c2)
theorem Eq_T4 {idx d1 : Nat} {N : am_M} {a1 a2 a3 a4 : Value} {Q : Option Value → am_H → Prop} (hd : decode M.2.1 pc = .ok (.invokestatic idx, 3)) (hlk : am_lk M.1.cls idx N.1) (hm : am_mS N 4) (hc : am_D d1 N [a1, a2, a3, a4] h Q) (hd1 : d1 < d) (hr : (st.map fun v => v.category).sum ≤ 8) (hlen : (am_ea [a1, a2, a3, a4]).length ≤ N.2.2.1) (k : ∀ v h1, Q v h1 → am_E d M (pc + 3) l (v.toList ++ st) h1 Ps) : am_E d M pc l (a4 :: a3 :: a2 :: a1 :: st) h Ps := by
  obtain ⟨v, h1, c1, c2⟩ := hc
  exact Eq_S4 hd hlk hm c1 hd1 hr hlen (k v h1 c2)
theorem Eq_W5 {idx r k0 n0 d1 : Nat} {N : am_M} {a1 a2 a3 a4 a5 : Value} {Q : Option Value → am_H → Prop} {T : u_T} {fN : Nat} (hd : decode M.2.1 pc = .ok (.invokevirtual idx, 3)) (hlk : am_lk M.1.cls idx N.1) (hm : am_mV N 5) (hc : am_D d1 N (.ref r :: [a1, a2, a3, a4, a5]) h Q) (hd1 : d1 < d) (hs : am_s h r = some (k0, n0)) (hcl : vwCl[k0]? = some (N.1.cls, T, fN)) (hk0 : k0 < 100) (hr : (st.map fun v => v.category).sum ≤ 8) (hlen : (am_ea (.ref r :: [a1, a2, a3, a4, a5])).length ≤ N.2.2.1) (k : ∀ v h1, Q v h1 → am_E d M (pc + 3) l (v.toList ++ st) h1 Ps) : am_E d M pc l (a5 :: a4 :: a3 :: a2 :: a1 :: .ref r :: st) h Ps := by
  obtain ⟨v, h1, c1, c2⟩ := hc
  exact Eq_V5 hd hlk hm c1 hd1 hs hcl hk0 hr hlen (k v h1 c2)
theorem Eq_T5 {idx d1 : Nat} {N : am_M} {a1 a2 a3 a4 a5 : Value} {Q : Option Value → am_H → Prop} (hd : decode M.2.1 pc = .ok (.invokestatic idx, 3)) (hlk : am_lk M.1.cls idx N.1) (hm : am_mS N 5) (hc : am_D d1 N [a1, a2, a3, a4, a5] h Q) (hd1 : d1 < d) (hr : (st.map fun v => v.category).sum ≤ 8) (hlen : (am_ea [a1, a2, a3, a4, a5]).length ≤ N.2.2.1) (k : ∀ v h1, Q v h1 → am_E d M (pc + 3) l (v.toList ++ st) h1 Ps) : am_E d M pc l (a5 :: a4 :: a3 :: a2 :: a1 :: st) h Ps := by
  obtain ⟨v, h1, c1, c2⟩ := hc
  exact Eq_S5 hd hlk hm c1 hd1 hr hlen (k v h1 c2)
theorem Eq_W6 {idx r k0 n0 d1 : Nat} {N : am_M} {a1 a2 a3 a4 a5 a6 : Value} {Q : Option Value → am_H → Prop} {T : u_T} {fN : Nat} (hd : decode M.2.1 pc = .ok (.invokevirtual idx, 3)) (hlk : am_lk M.1.cls idx N.1) (hm : am_mV N 6) (hc : am_D d1 N (.ref r :: [a1, a2, a3, a4, a5, a6]) h Q) (hd1 : d1 < d) (hs : am_s h r = some (k0, n0)) (hcl : vwCl[k0]? = some (N.1.cls, T, fN)) (hk0 : k0 < 100) (hr : (st.map fun v => v.category).sum ≤ 8) (hlen : (am_ea (.ref r :: [a1, a2, a3, a4, a5, a6])).length ≤ N.2.2.1) (k : ∀ v h1, Q v h1 → am_E d M (pc + 3) l (v.toList ++ st) h1 Ps) : am_E d M pc l (a6 :: a5 :: a4 :: a3 :: a2 :: a1 :: .ref r :: st) h Ps := by
  obtain ⟨v, h1, c1, c2⟩ := hc
  exact Eq_V6 hd hlk hm c1 hd1 hs hcl hk0 hr hlen (k v h1 c2)
theorem Eq_T6 {idx d1 : Nat} {N : am_M} {a1 a2 a3 a4 a5 a6 : Value} {Q : Option Value → am_H → Prop} (hd : decode M.2.1 pc = .ok (.invokestatic idx, 3)) (hlk : am_lk M.1.cls idx N.1) (hm : am_mS N 6) (hc : am_D d1 N [a1, a2, a3, a4, a5, a6] h Q) (hd1 : d1 < d) (hr : (st.map fun v => v.category).sum ≤ 8) (hlen : (am_ea [a1, a2, a3, a4, a5, a6]).length ≤ N.2.2.1) (k : ∀ v h1, Q v h1 → am_E d M (pc + 3) l (v.toList ++ st) h1 Ps) : am_E d M pc l (a6 :: a5 :: a4 :: a3 :: a2 :: a1 :: st) h Ps := by
  obtain ⟨v, h1, c1, c2⟩ := hc
  exact Eq_S6 hd hlk hm c1 hd1 hr hlen (k v h1 c2)
end EE
