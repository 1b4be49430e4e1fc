/-! what manners are worth -/
def bnd (v : Int64) : Int32 := if (1000000 : Int64) < v then 1000000 else if v < -1000000 then -1000000 else v.toInt32
def opv (o : Nat) (x y : Int32) : Int32 := if o = 2 then bnd (x.toInt64 + y.toInt64) else if o = 3 then bnd (x.toInt64 - y.toInt64) else if o = 4 then bnd (x.toInt64 * y.toInt64) else if o = 5 then (if y = 0 then 0 else bnd (x.toInt64 / y.toInt64)) else if o = 6 then (if x = y then 1 else 0) else if o = 7 then (if x < y then 1 else 0) else if o = 8 then (if y < x then 1 else 0) else if o = 10 then x &&& y else x ||| y
def tokE (ws : Nat → Int32) (t : Nat × Nat) (st : List Int32) : List Int32 := if t.1 = 0 then nI t.2 :: st else if t.1 = 1 then ws t.2 :: st else if t.1 = 9 then (match st with
    | x :: r => (if x = 0 then 1 else 0) :: r
    | [] => []) else match st with
    | y :: x :: r => opv t.1 x y :: r
    | _ => []
def run (ws : Nat → Int32) : Tks → List Int32 → List Int32
  | [], st => st
  | t :: r, st => run ws r (tokE ws t st)
/-- types: true for truths -/
def tyt (H : Nat) (t : Nat × Nat) (st : List Bool) : Option (List Bool) :=
  if t.1 = 0 then (if st.length < H ∧ t.2 < 10000 then some (false :: st) else none)
  else if t.1 = 1 then (if st.length < H ∧ t.2 < 6 then some (false :: st) else none)
  else if t.1 = 9 then (match st with
    | true :: s => some (true :: s)
    | _ => none)
  else if t.1 ≤ 5 then (match st with
    | false :: false :: s => some (false :: s)
    | _ => none)
  else if t.1 ≤ 8 then (match st with
    | false :: false :: s => some (true :: s)
    | _ => none)
  else if t.1 ≤ 11 then (match st with
    | true :: true :: s => some (true :: s)
    | _ => none)
  else none
def tyc (H : Nat) : Tks → List Bool → Option (List Bool)
  | [], st => some st
  | t :: r, st => match tyt H t st with
    | none => none
    | some s => tyc H r s
theorem tyc_app {H : Nat} : ∀ (a b : Tks) (st s : List Bool), tyc H a st = some s → tyc H (a ++ b) st = tyc H b s
  | [], b, st, s, h => by cases h; rfl
  | t :: r, b, st, s, h => by
    simp only [List.cons_append, tyc] at h ⊢
    cases hq : tyt H t st with
    | none => rw [hq] at h; cases h
    | some q => rw [hq] at h; exact tyc_app r b q s h
theorem tyc_1 {H : Nat} {t : Nat × Nat} {st s : List Bool} (h : tyt H t st = some s) : tyc H [t] st = some s := by simp only [tyc, h]
def TyP (H hs : Nat) (b : Bool) (p : Nat → Rd) : Prop := ∀ a ts, (p a).2 = some ts → ∀ st : List Bool, st.length + hs ≤ H → tyc H ts st = some (b :: st)
/-- what an operator makes -/
def TyO (x b : Bool) (op : Option Nat → Option Nat) : Prop := ∀ H c o, op c = some o → ∀ st : List Bool, tyt H (o, 0) (x :: x :: st) = some (b :: st)
theorem opS_ty : TyO false false opS := fun H c o h st => by
  unfold opS at h
  repeat' split at h
  all_goals cases h
  all_goals rfl
theorem opT_ty : TyO false false opT := fun H c o h st => by
  unfold opT at h
  repeat' split at h
  all_goals cases h
  all_goals rfl
theorem opA_ty : TyO true true opA := fun H c o h st => by
  unfold opA at h
  repeat' split at h
  all_goals cases h
  all_goals rfl
theorem opO_ty : TyO true true opO := fun H c o h st => by
  unfold opO at h
  repeat' split at h
  all_goals cases h
  all_goals rfl
theorem rel_ty : TyO false true rel := fun H c o h st => by
  unfold rel at h
  repeat' split at h
  all_goals cases h
  all_goals rfl
theorem chn_ty {tl : Nat} {tp : Nat → Nat} {H hs : Nat} {b : Bool} {op : Option Nat → Option Nat} (ho : TyO b b op) {p : Nat → Rd} (hp : TyP H hs b p) : ∀ k x ts us, (chn tl tp op p k x ts).2 = some us → ∀ st : List Bool, st.length + (hs + 1) ≤ H → tyc H ts st = some (b :: st) → tyc H us st = some (b :: st) := by
  intro k
  induction k with
  | zero => intro x ts us h; cases h
  | succ k ih =>
    intro x ts us h st hst ht
    cases hq : op (sgn tl tp (nx tl tp x)) with
    | none => rw [chn_n hq] at h; cases h; exact ht
    | some o =>
      rw [chn_s hq] at h
      cases hr : (p (nx tl tp x + 1)).2 with
      | none => rw [bd_n hr] at h; cases h
      | some vs =>
        rw [bd_s hr] at h
        refine ih _ _ us h st hst ?_
        rw [List.append_assoc, tyc_app _ _ _ _ ht, tyc_app _ _ _ _ (hp _ vs hr (b :: st) (by simp only [List.length_cons]; omega))]
        exact tyc_1 (ho H _ o hq st)
theorem chs_ty {tl : Nat} {tp : Nat → Nat} {H hs : Nat} {b : Bool} {op : Option Nat → Option Nat} (ho : TyO b b op) {p : Nat → Rd} (hp : TyP H hs b p) : TyP H (hs + 1) b (chs tl tp op p) := fun a ts h st hst => by
  unfold chs at h
  cases hr : (p a).2 with
  | none => rw [bd_n hr] at h; cases h
  | some vs =>
    rw [bd_s hr] at h
    exact chn_ty ho hp 161 _ vs ts h st hst (hp a vs hr st (by omega))
theorem clo_ty {tl : Nat} {tp : Nat → Nat} {c : Nat} {r : Rd} {ts : Tks} (h : (clo tl tp c r).2 = some ts) : r.2 = some ts := by
  unfold clo at h
  cases hr : r.2 with
  | none => rw [bd_n hr] at h; cases h
  | some vs =>
    rw [bd_s hr] at h
    split at h
    · exact h
    · cases h
theorem atm_ty {tl : Nat} {tp : Nat → Nat} {H hs L : Nat} (h1 : 1 ≤ hs) {inner : Nat → Rd} (hi : L ≠ 0 → TyP H hs false inner) : TyP H hs false (atm tl tp L inner) := fun a ts h st hst => by
  unfold atm at h
  split at h
  next =>
    split at h
    next => cases h
    next hL => exact hi hL _ ts (clo_ty h) st hst
  next =>
    split at h
    next j hj =>
      cases h
      refine tyc_1 ?_
      unfold tyt
      rw [if_neg (show ¬ (1 : Nat) = 0 by decide), if_pos rfl, if_pos ⟨by omega, (lti_s hj).1⟩]
    next =>
      dsimp only at h
      cases hq : (num tl tp 4 (nx tl tp a)).2 with
      | none => rw [hq] at h; cases h
      | some v =>
        rw [hq] at h
        cases h
        refine tyc_1 ?_
        unfold tyt
        have hv : v < 10000 := by
          unfold num at hq
          split at hq
          next hd =>
            split at hq
            · cases hq
            · cases hq
              have hl := (isDg_at hd).1
              have := (ndg_b (tl := tl) (tp := tp) 4 (nx tl tp (nx tl tp a)) 0 (by omega)).2.2.2
              omega
          next => cases hq
        rw [if_pos rfl, if_pos ⟨by omega, hv⟩]
theorem smP_ty {tl : Nat} {tp : Nat → Nat} {H : Nat} : ∀ L, TyP H (2 * L + 3) false (smP tl tp L)
  | 0 => chs_ty opS_ty (chs_ty opT_ty (atm_ty (by omega) (fun h => absurd rfl h)))
  | L + 1 => chs_ty opS_ty (chs_ty opT_ty (atm_ty (by omega) (fun _ => smP_ty L)))
theorem rlt_ty {tl : Nat} {tp : Nat → Nat} {H hs : Nat} {sum : Nat → Rd} (hsm : TyP H hs false sum) {b : Nat} {ts us : Tks} (h : (rlt tl tp sum b ts).2 = some us) {st : List Bool} (hst : st.length + (hs + 1) ≤ H) (ht : tyc H ts st = some (false :: st)) : tyc H us st = some (true :: st) := by
  unfold rlt at h
  split at h
  next => cases h
  next o ho =>
    cases hr : (sum (nx tl tp b + 1)).2 with
    | none => rw [bd_n hr] at h; cases h
    | some vs =>
      rw [bd_s hr] at h
      cases h
      rw [List.append_assoc, tyc_app _ _ _ _ ht, tyc_app _ _ _ _ (hsm _ vs hr (false :: st) (by simp only [List.length_cons]; omega))]
      exact tyc_1 (rel_ty H _ o ho st)
theorem untW_ty {tl : Nat} {tp : Nat → Nat} {H hs hu L : Nat} {sum iu ic : Nat → Rd} (hsm : TyP H hs false sum) (h1 : hs + 1 ≤ hu) (hi : L ≠ 0 → TyP H hu true iu) (hc : L ≠ 0 → TyP H hu true ic) : TyP H hu true (untW tl tp L sum iu ic) := fun a ts h st hst => by
  unfold untW at h
  split at h
  next =>
    split at h
    next => cases h
    next hL =>
      cases hr : (iu (nx tl tp a + 1)).2 with
      | none => rw [bd_n hr] at h; cases h
      | some vs =>
        rw [bd_s hr] at h
        cases h
        rw [tyc_app _ _ _ _ (hi hL _ vs hr st hst)]
        rfl
  next =>
    split at h
    next =>
      split at h
      next => cases h
      next hL => exact hc hL _ ts (clo_ty h) st hst
    next =>
      cases hr : (sum (nx tl tp a)).2 with
      | none => rw [bd_n hr] at h; cases h
      | some vs =>
        rw [bd_s hr] at h
        exact rlt_ty hsm h (by omega) (hsm _ vs hr st (by omega))
theorem TyP.mono {H hs hs' : Nat} {b : Bool} {p : Nat → Rd} (h : TyP H hs b p) (hl : hs ≤ hs') : TyP H hs' b p := fun a ts ht st hst => h a ts ht st (by omega)
theorem unP_ty {tl : Nat} {tp : Nat → Nat} {H : Nat} : ∀ L, TyP H (2 * L + 4) true (unP tl tp L)
  | 0 => untW_ty (smP_ty 0) (by omega) (fun h => absurd rfl h) (fun h => absurd rfl h)
  | L + 1 => untW_ty (smP_ty (L + 1)) (by omega) (fun _ => (unP_ty L).mono (by omega)) (fun _ => chs_ty opO_ty (chs_ty opA_ty (unP_ty L)))
/-- a clause is well made -/
def ClT (c : Tks × Tks) : Prop := (c.1 = [] ∨ tyc 80 c.1 [] = some [true]) ∧ tyc 80 c.2 [] = some [false]
theorem csq_ty {tl : Nat} {tp : Nat → Nat} {b : Nat} {ts : Tks} (ht : tyc 80 ts [] = some [true]) {c : Tks × Tks} (h : (csq tl tp b ts).2 = some c) : ClT c := by
  unfold csq at h
  split at h
  next =>
    cases hr : (smP tl tp 6 (nx tl tp b + 1)).2 with
    | none => rw [bdc_n hr] at h; cases h
    | some vs =>
      rw [bdc_s hr] at h
      cases h
      exact ⟨Or.inr ht, smP_ty 6 _ vs hr [] (by simp)⟩
  next => cases h
theorem mcl_ty {tl : Nat} {tp : Nat → Nat} {a : Nat} {c : Tks × Tks} (h : (mcl tl tp a).2 = some c) : ClT c := by
  unfold mcl at h
  split at h
  next =>
    split at h
    next =>
      split at h
      next =>
        cases hr : (cndW tl tp (unP tl tp 6) (nx tl tp (nx tl tp (nx tl tp a + 1) + 1))).2 with
        | none => rw [bdc_n hr] at h; cases h
        | some ts =>
          rw [bdc_s hr] at h
          exact csq_ty (chs_ty opO_ty (chs_ty opA_ty (unP_ty 6)) _ ts hr [] (by simp)) h
      next =>
        cases hr : (smP tl tp 6 (nx tl tp (nx tl tp (nx tl tp a + 1) + 1))).2 with
        | none => rw [bdc_n hr] at h; cases h
        | some ts =>
          rw [bdc_s hr] at h
          have hts := smP_ty (H := 80) 6 _ ts hr [] (by simp)
          split at h
          next => cases h; exact ⟨Or.inl rfl, hts⟩
          next =>
            cases hb : (bgn tl tp (smP tl tp 6 (nx tl tp (nx tl tp (nx tl tp a + 1) + 1))).1 ts).2 with
            | none => rw [bdc_n hb] at h; cases h
            | some vs =>
              rw [bdc_s hb] at h
              refine csq_ty ?_ h
              unfold bgn at hb
              cases h1 : (rlt tl tp (smP tl tp 6) (smP tl tp 6 (nx tl tp (nx tl tp (nx tl tp a + 1) + 1))).1 ts).2 with
              | none => rw [bd_n h1, bd_n rfl] at hb; cases hb
              | some us =>
                rw [bd_s h1] at hb
                have t1 := rlt_ty (smP_ty (H := 80) 6) h1 (st := []) (by simp) hts
                cases h2 : (chn tl tp opA (unP tl tp 6) 161 (rlt tl tp (smP tl tp 6) (smP tl tp 6 (nx tl tp (nx tl tp (nx tl tp a + 1) + 1))).1 ts).1 us).2 with
                | none => rw [bd_n h2] at hb; cases hb
                | some ws =>
                  rw [bd_s h2] at hb
                  have t2 := chn_ty opA_ty (unP_ty (H := 80) 6) 161 _ us ws h2 [] (by simp) t1
                  exact chn_ty opO_ty (chs_ty opA_ty (unP_ty (H := 80) 6)) 161 _ ws vs hb [] (by simp) t2
    next => cases h
  next => cases h
theorem mcs_ty {tl : Nat} {tp : Nat → Nat} : ∀ k a M, (∀ c ∈ M, ClT c) → ∀ M', (mcs tl tp k a M).2 = some M' → ∀ c ∈ M', ClT c := by
  intro k
  induction k with
  | zero => intro a M _ M' h; cases h
  | succ k ih =>
    intro a M hM M' h
    cases hq : (mcl tl tp a).2 with
    | none => rw [mcs_n hq] at h; cases h
    | some c =>
      have hMc : ∀ d ∈ M ++ [c], ClT d := fun d hd => by
        rcases List.mem_append.mp hd with z | z
        · exact hM d z
        · rw [List.mem_singleton.mp z]; exact mcl_ty hq
      by_cases e : sgn tl tp (nx tl tp (mcl tl tp a).1) = some 59
      · rw [mcs_y hq e] at h
        exact ih _ _ hMc M' h
      · by_cases e2 : sgn tl tp (nx tl tp (mcl tl tp a).1) = none
        · rw [mcs_e hq e e2] at h
          cases h
          exact hMc
        · rw [mcs_f hq e e2] at h
          cases h
/-- values as typed -/
def vt : List Bool → List Int32 → Prop
  | [], [] => True
  | b :: bs, v :: vs => (b = true → v = 0 ∨ v = 1) ∧ vt bs vs
  | _, _ => False
theorem vt_len : ∀ {bs : List Bool} {vs : List Int32}, vt bs vs → vs.length = bs.length
  | [], [], _ => rfl
  | b :: bs, v :: vs, h => by simp only [List.length_cons]; rw [vt_len h.2]
  | [], v :: vs, h => h.elim
  | b :: bs, [], h => h.elim
theorem vt1 {b : Bool} {bs : List Bool} {vs : List Int32} (h : vt (b :: bs) vs) : ∃ v r, vs = v :: r ∧ (b = true → v = 0 ∨ v = 1) ∧ vt bs r := by
  cases vs with
  | nil => exact h.elim
  | cons v r => exact ⟨v, r, rfl, h⟩
theorem b01a {x y : Int32} (hx : x = 0 ∨ x = 1) (hy : y = 0 ∨ y = 1) : x &&& y = 0 ∨ x &&& y = 1 := by
  rcases hx with rfl | rfl <;> rcases hy with rfl | rfl <;> decide
theorem b01o {x y : Int32} (hx : x = 0 ∨ x = 1) (hy : y = 0 ∨ y = 1) : x ||| y = 0 ∨ x ||| y = 1 := by
  rcases hx with rfl | rfl <;> rcases hy with rfl | rfl <;> decide
theorem ite01 {p : Prop} [Decidable p] : (if p then (1 : Int32) else 0) = 0 ∨ (if p then (1 : Int32) else 0) = 1 := by
  by_cases h : p
  · rw [if_pos h]; exact Or.inr rfl
  · rw [if_neg h]; exact Or.inl rfl
/-- kinds of tokens that stand at a stack -/
theorem tyt_c {H : Nat} {t : Nat × Nat} {ty ty' : List Bool} (h : tyt H t ty = some ty') : (t.1 = 0 ∧ ty.length < H ∧ t.2 < 10000 ∧ ty' = false :: ty) ∨ (t.1 = 1 ∧ ty.length < H ∧ t.2 < 6 ∧ ty' = false :: ty) ∨ (t.1 = 9 ∧ ∃ s, ty = true :: s ∧ ty' = true :: s) ∨ (2 ≤ t.1 ∧ t.1 ≤ 5 ∧ ∃ s, ty = false :: false :: s ∧ ty' = false :: s) ∨ (6 ≤ t.1 ∧ t.1 ≤ 8 ∧ ∃ s, ty = false :: false :: s ∧ ty' = true :: s) ∨ (10 ≤ t.1 ∧ t.1 ≤ 11 ∧ ∃ s, ty = true :: true :: s ∧ ty' = true :: s) := by
  unfold tyt at h
  split at h
  next e =>
    split at h
    next q => cases h; exact Or.inl ⟨e, q.1, q.2, rfl⟩
    next => cases h
  next n0 =>
    split at h
    next e =>
      split at h
      next q => cases h; exact Or.inr (Or.inl ⟨e, q.1, q.2, rfl⟩)
      next => cases h
    next n1 =>
      split at h
      next e =>
        split at h
        next s => cases h; exact Or.inr (Or.inr (Or.inl ⟨e, s, rfl, rfl⟩))
        next => cases h
      next n9 =>
        split at h
        next e =>
          split at h
          next s => cases h; exact Or.inr (Or.inr (Or.inr (Or.inl ⟨by omega, e, s, rfl, rfl⟩)))
          next => cases h
        next n5 =>
          split at h
          next e =>
            split at h
            next s => cases h; exact Or.inr (Or.inr (Or.inr (Or.inr (Or.inl ⟨by omega, e, s, rfl, rfl⟩))))
            next => cases h
          next n8 =>
            split at h
            next e =>
              split at h
              next s => cases h; exact Or.inr (Or.inr (Or.inr (Or.inr (Or.inr ⟨by omega, e, s, rfl, rfl⟩))))
              next => cases h
            next => cases h
theorem tokE_o {ws : Nat → Int32} {t : Nat × Nat} {x y : Int32} {r : List Int32} (h1 : 2 ≤ t.1) (h9 : t.1 ≠ 9) : tokE ws t (y :: x :: r) = opv t.1 x y :: r := by
  unfold tokE
  rw [if_neg (by omega), if_neg (by omega), if_neg h9]
theorem tokE_vt {H : Nat} {ws : Nat → Int32} {t : Nat × Nat} {ty ty' : List Bool} {st : List Int32} (h : tyt H t ty = some ty') (hv : vt ty st) : vt ty' (tokE ws t st) := by
  rcases tyt_c h with ⟨e, _, _, rfl⟩ | ⟨e, _, _, rfl⟩ | ⟨e, s, rfl, rfl⟩ | ⟨e1, e2, s, rfl, rfl⟩ | ⟨e1, e2, s, rfl, rfl⟩ | ⟨e1, e2, s, rfl, rfl⟩
  · unfold tokE
    rw [if_pos e]
    exact ⟨(fun z => nomatch z), hv⟩
  · unfold tokE
    rw [if_neg (by omega), if_pos e]
    exact ⟨(fun z => nomatch z), hv⟩
  · obtain ⟨v, r, rfl, h1, h2⟩ := vt1 hv
    unfold tokE
    rw [if_neg (by omega), if_neg (by omega), if_pos e]
    exact ⟨fun _ => ite01, h2⟩
  · obtain ⟨y, r, rfl, h1, h2⟩ := vt1 hv
    obtain ⟨x, r, rfl, h3, h4⟩ := vt1 h2
    rw [tokE_o (by omega) (by omega)]
    exact ⟨(fun z => nomatch z), h4⟩
  · obtain ⟨y, r, rfl, h1, h2⟩ := vt1 hv
    obtain ⟨x, r, rfl, h3, h4⟩ := vt1 h2
    rw [tokE_o (by omega) (by omega)]
    refine ⟨fun _ => ?_, h4⟩
    unfold opv
    rw [if_neg (by omega), if_neg (by omega), if_neg (by omega), if_neg (by omega)]
    split
    · exact ite01
    · split
      · exact ite01
      · rw [if_pos (by omega)]; exact ite01
  · obtain ⟨y, r, rfl, h1, h2⟩ := vt1 hv
    obtain ⟨x, r, rfl, h3, h4⟩ := vt1 h2
    rw [tokE_o (by omega) (by omega)]
    refine ⟨fun _ => ?_, h4⟩
    unfold opv
    rw [if_neg (by omega), if_neg (by omega), if_neg (by omega), if_neg (by omega), if_neg (by omega), if_neg (by omega), if_neg (by omega)]
    split
    · exact b01a (h3 rfl) (h1 rfl)
    · exact b01o (h3 rfl) (h1 rfl)
/-- worth of manners where the letters stand for ws -/
def wth (ws : Nat → Int32) : List (Tks × Tks) → Int32
  | [] => 0
  | c :: r => if c.1 = [] then (run ws c.2 []).headD 0 else if (run ws c.1 []).headD 0 = 0 then wth ws r else (run ws c.2 []).headD 0
theorem run_app {ws : Nat → Int32} : ∀ (a b : Tks) (st : List Int32), run ws (a ++ b) st = run ws b (run ws a st)
  | [], _, _ => rfl
  | t :: r, b, st => by simp only [List.cons_append, run]; exact run_app r b _
theorem run_vt {H : Nat} {ws : Nat → Int32} : ∀ {ts : Tks} {ty ty' : List Bool} {st : List Int32}, tyc H ts ty = some ty' → vt ty st → vt ty' (run ws ts st)
  | [], ty, ty', st, h, hv => by cases h; exact hv
  | t :: r, ty, ty', st, h, hv => by
    simp only [tyc] at h
    cases hq : tyt H t ty with
    | none => rw [hq] at h; cases h
    | some s => rw [hq] at h; exact run_vt (ts := r) h (tokE_vt hq hv)
theorem run_1 {ws : Nat → Int32} {ts : Tks} {b : Bool} (h : tyc 80 ts [] = some [b]) : ∃ v, run ws ts [] = [v] := by
  have := run_vt (ws := ws) h (st := []) trivial
  obtain ⟨v, r, hv, _, hr⟩ := vt1 this
  cases r with
  | nil => exact ⟨v, hv⟩
  | cons _ _ => exact hr.elim
