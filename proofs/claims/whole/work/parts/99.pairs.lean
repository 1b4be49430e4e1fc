/-! calls that change what holds -/
abbrev SCK : List Nat := [5, 7, 15, 17, 21, 22, 23, 24, 25, 26, 27, 28, 30, 31, 32, 34, 35, 36, 59, 60, 61, 64, 65, 66, 67, 70, 79]
abbrev SCL : List (Nat × Nat) := (29, 7) :: (29, 8) :: (29, 9) :: SCB
theorem IV.fxk {h h' : am_H} {n : Nat} {g : Bool} {F : Nat → Nat → Nat} {S T : Nat → Nat} {tl : Nat} {tp : Nat → Nat} {mc : Nat} {Z : Nat → ZT} {hold : Option Nat} {kn : Nat} {ks : Nat → Nat} {ky : Nat → Bool} {hd : Nat} {y : Nat → Nat} {p : Nat → Bool} {st : Nat → Int64} {dr : Int64} {A : List Nat} {B : List (Nat × Nat)} (m : IV h n g F S T tl tp mc Z hold kn ks ky hd y p st dr) (a0 : Fx A B h h') (hA : ∀ x ∈ A, x ∈ SCK ∨ x ∈ FL (qZ hold Z)) (hB : ∀ q ∈ B, q ∈ SCL) (kp : KP h' (hmZ hold Z) n g F) (kc : KC h' n g F (lS n S)) : IV h' n g F S T tl tp mc Z hold kn ks ky hd y p st dr := by
  obtain ⟨m0, m1, m2, m3, m4, m5, m6, m7, m8, m9⟩ := m
  have hch := m3.ch m4
  have a : Fx (SCK ++ FL (qZ hold Z)) SCL h h' := a0.mono (fun x hx => List.mem_append.mpr (hA x hx)) (fun q hq => Or.inr (hB q hq))
  have nA : ∀ {x : Nat}, x ∉ SCK ∧ x < 80 ∧ x ≠ 21 → x ∉ SCK ++ FL (qZ hold Z) := fun hx => FLa hch hx.1 hx.2.1 hx.2.2
  refine ⟨⟨a.Wd m0.1, by rw [a.t]; exact m0.2⟩, m1.fx a ⟨⟨nA (by decide), nA (by decide), by decide⟩, ⟨nA (by decide), nA (by decide), nA (by decide), by decide⟩, ⟨nA (by decide), nA (by decide), nA (by decide), by decide⟩⟩, m2.fx a ⟨⟨nA (by decide), by decide, nA (by decide), by decide⟩, ⟨nA (by decide), by decide, by decide, nA (by decide), by decide⟩⟩, m3.fx a ⟨⟨nA (by decide), nA (by decide), nA (by decide), nA (by decide), nA (by decide), nA (by decide), by decide⟩, nA (by decide), by decide, nA (by decide), by decide⟩ (fun k hk z => ?_) (by decide), m4.fx a ⟨nA (by decide), by decide, nA (by decide), by decide⟩, kp, kc, m7.fx a ⟨⟨nA (by decide), by decide, nA (by decide), nA (by decide), by decide⟩, ⟨nA (by decide), by decide, nA (by decide), nA (by decide), by decide⟩⟩, m8.fx a ⟨⟨nA (by decide), by decide, by decide, nA (by decide), nA (by decide), nA (by decide), by decide⟩, ⟨nA (by decide), by decide, by decide, nA (by decide), nA (by decide), nA (by decide), by decide⟩⟩, m9.fx a ⟨⟨nA (by decide), by decide, nA (by decide), by decide⟩, ⟨nA (by decide), nA (by decide), by decide⟩, ⟨nA (by decide), nA (by decide), nA (by decide), by decide⟩, ⟨nA (by decide), by decide, by decide, nA (by decide), nA (by decide), nA (by decide), by decide⟩, ⟨nA (by decide), nA (by decide), by decide⟩, ⟨nA (by decide), by decide, by decide, nA (by decide), nA (by decide), nA (by decide), by decide⟩⟩⟩
  have h8 := (m3.2.2.2.1 k hk).2.1.2.2.2.2.2.2.2.2.2.2.2.1
  rcases List.mem_append.mp z with z | z
  · have : ∀ x ∈ SCK, x < 80 := by decide
    have := this _ z
    omega
  · exact FL_ok m3 m4 k hk z
set_option maxHeartbeats 2000000 in
theorem p_best {h : am_H} (hI : INV h) {x1 x2 : Int32} : PRi m_X11_best m_X12_best [.int x1, .int x2] h := by
  obtain ⟨n, g, F, S, T, tl, tp, mc, Z, hold, kn, ks, ky, hd, y, p, st, dr, m⟩ := hI
  obtain ⟨⟨hW, h80⟩, ⟨hM, hS, hR, h2n, h0g⟩, ⟨hP, ra, hRA⟩, m3, m4, hKP, hKC, ⟨hK, hKr⟩, ⟨hT, hTr, hZ⟩, m9⟩ := id m
  have hch := m3.ch m4
  obtain ⟨v1, h1, k1, e1, f1, kp1⟩ := c_best hW hM hch h2n (by rw [hmo_q]; exact hKP) (x1 := x1) (x2 := x2)
  subst e1
  rw [hmo_q] at k1 kp1
  have kc1 : KC h1 n g F (lS n S) := hKC.fx f1 ⟨FLa hch (by decide) (by decide) (by decide), by decide⟩
  have m1 := m.fxk f1 (fun x hx => (List.mem_append.mp hx).elim (fun z => Or.inl ((show ∀ x ∈ [22, 23, 24, 25, 26, 27, 28], x ∈ SCK by decide) x z)) Or.inr) (by decide) kp1 kc1
  obtain ⟨⟨hW1, h801⟩, ⟨hM1, hS1, hR1, _, _⟩, ⟨hP1, ra1, hRA1⟩, m31, m41, _⟩ := id m1
  obtain ⟨v2, h2, k2, e2, f2, rb2⟩ := r_best hW1 hR1 (m31.rh m41) (x1 := x1) (x2 := x2)
  subst e2
  have f2' : Fx [59, 60, 66] [(50, 25), (50, 26), (50, 27), (50, 28), (50, 33)] h2 h2 := Fx.rf
  obtain ⟨⟨_, h80'⟩, ⟨hM1, hS1, hR1, g1, g2⟩, c2', c3', c4', c5', c6', c7', c8', c9'⟩ := m1
  refine ⟨_, h1, h2, _, _, by decide, by decide, k1, k2, hW1, ⟨_, _, _, _, _, _, _, _, _, _, _, _, _, _, _, _, _, _, ⟨f2.Wd hW1, by rw [f2.t]; exact h80'⟩, ⟨hM1.fx f2 (by decide), hS1.fx f2 (by decide), rb2, g1, g2⟩, c2'.fx f2 (by decide), c3'.fx0 f2 (by decide), c4'.fx f2 (by decide), c5'.fx f2 (by decide), c6'.fx f2 (by decide), c7'.fx f2 (by decide), c8'.fx f2 (by decide), c9'.fx f2 ⟨by decide, by decide, by decide, by decide, by decide, by decide⟩⟩, by rw [f1.t]; omega, by rw [f1.u]; omega, f2.t, f2.u⟩
set_option maxHeartbeats 2000000 in
theorem p_changes {h : am_H} (hI : INV h) {x : Int32} : PRi m_X11_changes m_X12_changes [.int x] h := by
  obtain ⟨n, g, F, S, T, tl, tp, mc, Z, hold, kn, ks, ky, hd, y, p, st, dr, m⟩ := hI
  obtain ⟨⟨hW, h80⟩, ⟨hM, hS, hR, h2n, h0g⟩, ⟨hP, ra, hRA⟩, m3, m4, hKP, hKC, ⟨hK, hKr⟩, ⟨hT, hTr, hZ⟩, m9⟩ := id m
  obtain ⟨v1, h1, k1, e1, f1, kc1⟩ := c_changes hW hM hS hKC (x := x)
  have kp1 : KP h1 (hmZ hold Z) n g F := hKP.fx f1 (by decide)
  have m1 := m.fxk f1 (fun x hx => Or.inl ((show ∀ x ∈ [30, 31, 32, 35, 36], x ∈ SCK by decide) x hx)) (by decide) kp1 kc1
  obtain ⟨⟨hW1, h801⟩, ⟨hM1, hS1, hR1, _, _⟩, ⟨hP1, ra1, hRA1⟩, m31, m41, _⟩ := id m1
  obtain ⟨v2, h2, k2, e2, f2, rb2⟩ := r_changes hW1 hR1 (x := x)
  have ev := chP_uq e2 e1
  subst ev
  obtain ⟨o, _, rfl⟩ := e1
  obtain ⟨⟨_, h80'⟩, ⟨hM1, hS1, hR1, g1, g2⟩, c2', c3', c4', c5', c6', c7', c8', c9'⟩ := m1
  refine ⟨_, h1, h2, _, _, by decide, by decide, k1, k2, hW1, ⟨_, _, _, _, _, _, _, _, _, _, _, _, _, _, _, _, _, _, ⟨f2.Wd hW1, by rw [f2.t]; exact h80'⟩, ⟨hM1.fx f2 (by decide), hS1.fx f2 (by decide), rb2, g1, g2⟩, c2'.fx f2 (by decide), c3'.fx0 f2 (by decide), c4'.fx f2 (by decide), c5'.fx f2 (by decide), c6'.fx f2 (by decide), c7'.fx f2 (by decide), c8'.fx f2 (by decide), c9'.fx f2 ⟨by decide, by decide, by decide, by decide, by decide, by decide⟩⟩, by rw [f1.t]; omega, by rw [f1.u]; omega, f2.t, f2.u⟩
theorem seO_i {n : Nat} {F : Nat → Nat → Nat} {x1 x2 x3 : Int32} {q : Nat × Nat × Nat} (h : seO n F x1 x2 x3 = some q) : q.1 = 0 ∨ q.1 = 3 := by
  unfold seO at h
  split at h
  · cases h
  · split at h
    · cases h
    · split at h
      · cases h
      · split at h
        · split at h
          · cases h
          · cases h; exact Or.inl rfl
        · split at h
          · cases h
          · cases h; exact Or.inr rfl
set_option maxHeartbeats 2000000 in
theorem p_set {h : am_H} (hI : INV h) {x1 x2 x3 : Int32} : PRi m_X11_set m_X12_set [.int x1, .int x2, .int x3] h := by
  obtain ⟨n, g, F, S, T, tl, tp, mc, Z, hold, kn, ks, ky, hd, y, p, st, dr, m⟩ := hI
  obtain ⟨⟨hW, h80⟩, ⟨hM, hS, hR, h2n, h0g⟩, ⟨hP, ra, hRA⟩, m3, m4, hKP, hKC, ⟨hK, hKr⟩, ⟨hT, hTr, hZ⟩, m9⟩ := id m
  obtain ⟨v1, h1, k1, q1⟩ := c_set hW hM (x1 := x1) (x2 := x2) (x3 := x3)
  cases hO : seO n F x1 x2 x3 with
  | none =>
    rw [hO] at q1
    obtain ⟨e1, e0⟩ := q1
    subst e1
    subst e0
    obtain ⟨v2, h2, k2, q2⟩ := r_set hW hR (x1 := x1) (x2 := x2) (x3 := x3)
    rw [hO] at q2
    obtain ⟨e2, e0⟩ := q2
    subst e2
    subst e0
    exact ⟨_, _, _, _, _, by decide, by decide, k1, k2, hW, ⟨_, _, _, _, _, _, _, _, _, _, _, _, _, _, _, _, _, _, m⟩, by omega, by omega, rfl, rfl⟩
  | some q =>
    rw [hO] at q1
    obtain ⟨e1, _, _, _, f1, hM1, kf⟩ := q1
    subst e1
    have hW1 := f1.Wd hW
    have hR1 := hR.fx f1 (by decide)
    have hK1 := hKr.fx f1 (by decide)
    obtain ⟨v2, h2, k2, q2⟩ := r_set hW1 hR1 (x1 := x1) (x2 := x2) (x3 := x3)
    rw [hO] at q2
    obtain ⟨e2, _, _, _, f2, hR2⟩ := q2
    subst e2
    have f : Fx [10, 26, 62] [(29, 7)] h h2 := (f1.mono (by decide) (by decide)).tr (f2.mono (by decide) (by decide))
    have hi := seO_i hO
    exact ⟨_, h1, h2, _, _, by decide, by decide, k1, k2, hW1, ⟨_, _, _, _, _, _, _, _, _, _, _, _, _, _, _, _, _, _, ⟨f.Wd hW, by rw [f.t]; exact h80⟩, ⟨hM1.fx f2 (by decide), hS.fx f (by decide), hR2, h2n, h0g⟩, (show c2 h tl tp from ⟨hP, ra, hRA⟩).fx f (by decide), m3.fx0 f (by decide), m4.fx f (by decide), KP.z (fun w hw => (f2.i (by decide) (by simp)).trans (kf.1 w hw)), Or.inl ((f2.i (by decide) (by decide)).trans kf.2), (show c7 h n kn ks ky from ⟨hK, hKr⟩).fx f (by decide), (show c8 h hd y p st dr from ⟨hT, hTr, hZ⟩).fx f (by decide), (m9.fx f ⟨by decide, by decide, by decide, by decide, by decide, by decide⟩).F (fun i k h1 h2 h3 h4 => by unfold upF; rw [if_neg (fun z => by omega)])⟩, by rw [f1.t]; omega, by rw [f1.u]; omega, f2.t, f2.u⟩
set_option maxHeartbeats 2000000 in
theorem p_change {h : am_H} (hI : INV h) {x1 x2 : Int32} : PRi m_X11_change m_X12_change [.int x1, .int x2] h := by
  obtain ⟨n, g, F, S, T, tl, tp, mc, Z, hold, kn, ks, ky, hd, y, p, st, dr, m⟩ := hI
  obtain ⟨⟨hW, h80⟩, ⟨hM, hS, hR, h2n, h0g⟩, ⟨hP, ra, hRA⟩, m3, m4, hKP, hKC, ⟨hK, hKr⟩, ⟨hT, hTr, hZ⟩, m9⟩ := id m
  obtain ⟨v1, h1, k1, q1⟩ := c_change hW hS (x1 := x1) (x2 := x2)
  cases hO : chO n x1 x2 with
  | none =>
    rw [hO] at q1
    obtain ⟨e1, e0⟩ := q1
    subst e1
    subst e0
    obtain ⟨v2, h2, k2, q2⟩ := r_change hW hR (x1 := x1) (x2 := x2)
    rw [hO] at q2
    obtain ⟨e2, e0⟩ := q2
    subst e2
    subst e0
    exact ⟨_, _, _, _, _, by decide, by decide, k1, k2, hW, ⟨_, _, _, _, _, _, _, _, _, _, _, _, _, _, _, _, _, _, m⟩, by omega, by omega, rfl, rfl⟩
  | some q =>
    rw [hO] at q1
    obtain ⟨e1, f1, _, _, _, hS1, kf⟩ := q1
    subst e1
    have hW1 := f1.Wd hW
    have hR1 := hR.fx f1 (by decide)
    have hK1 := hKr.fx f1 (by decide)
    obtain ⟨v2, h2, k2, q2⟩ := r_change hW1 hR1 (x1 := x1) (x2 := x2)
    rw [hO] at q2
    obtain ⟨e2, f2, _, _, _, hR2⟩ := q2
    subst e2
    have f : Fx [12, 13, 26, 63] [(29, 7)] h h2 := (f1.mono (by decide) (by decide)).tr (f2.mono (by decide) (by decide))
    exact ⟨_, h1, h2, _, _, by decide, by decide, k1, k2, hW1, ⟨_, _, _, _, _, _, _, _, _, _, _, _, _, _, _, _, _, _, ⟨f.Wd hW, by rw [f.t]; exact h80⟩, ⟨hM.fx f (by decide), hS1.fx f2 (by decide), hR2, h2n, h0g⟩, (show c2 h tl tp from ⟨hP, ra, hRA⟩).fx f (by decide), m3.fx0 f (by decide), m4.fx f (by decide), KP.z (fun w hw => (f2.i (by decide) (by simp)).trans (kf.1 w hw)), Or.inl ((f2.i (by decide) (by decide)).trans kf.2), (show c7 h n kn ks ky from ⟨hK, hKr⟩).fx f (by decide), (show c8 h hd y p st dr from ⟨hT, hTr, hZ⟩).fx f (by decide), m9.fx f ⟨by decide, by decide, by decide, by decide, by decide, by decide⟩⟩, by rw [f1.t]; omega, by rw [f1.u]; omega, f2.t, f2.u⟩
set_option maxHeartbeats 2000000 in
theorem p_sit {h : am_H} (hI : INV h) {x : Int32} : PRi m_X11_sit m_X12_sit [.int x] h := by
  obtain ⟨n, g, F, S, T, tl, tp, mc, Z, hold, kn, ks, ky, hd, y, p, st, dr, m⟩ := hI
  obtain ⟨⟨hW, h80⟩, ⟨hM, hS, hR, h2n, h0g⟩, ⟨hP, ra, hRA⟩, m3, m4, hKP, hKC, ⟨hK, hKr⟩, ⟨hT, hTr, hZ⟩, m9⟩ := id m
  obtain ⟨v1, h1, k1, q1⟩ := c_sit hW hS (x := x)
  cases hO : siO n x with
  | none =>
    rw [hO] at q1
    obtain ⟨e1, e0⟩ := q1
    subst e1
    subst e0
    obtain ⟨v2, h2, k2, q2⟩ := r_sit hW hR (x := x)
    rw [hO] at q2
    obtain ⟨e2, e0⟩ := q2
    subst e2
    subst e0
    exact ⟨_, _, _, _, _, by decide, by decide, k1, k2, hW, ⟨_, _, _, _, _, _, _, _, _, _, _, _, _, _, _, _, _, _, m⟩, by omega, by omega, rfl, rfl⟩
  | some q =>
    rw [hO] at q1
    obtain ⟨e1, f1, _, hS1, kf⟩ := q1
    subst e1
    have hW1 := f1.Wd hW
    have hR1 := hR.fx f1 (by decide)
    have hK1 := hKr.fx f1 (by decide)
    obtain ⟨v2, h2, k2, q2⟩ := r_sit hW1 hR1 (x := x)
    rw [hO] at q2
    obtain ⟨e2, f2, _, hR2⟩ := q2
    subst e2
    have f : Fx [12, 13, 26, 63] [(29, 7)] h h2 := (f1.mono (by decide) (by decide)).tr (f2.mono (by decide) (by decide))
    exact ⟨_, h1, h2, _, _, by decide, by decide, k1, k2, hW1, ⟨_, _, _, _, _, _, _, _, _, _, _, _, _, _, _, _, _, _, ⟨f.Wd hW, by rw [f.t]; exact h80⟩, ⟨hM.fx f (by decide), hS1.fx f2 (by decide), hR2, h2n, h0g⟩, (show c2 h tl tp from ⟨hP, ra, hRA⟩).fx f (by decide), m3.fx0 f (by decide), m4.fx f (by decide), KP.z (fun w hw => (f2.i (by decide) (by simp)).trans (kf.1 w hw)), Or.inl ((f2.i (by decide) (by decide)).trans kf.2), (show c7 h n kn ks ky from ⟨hK, hKr⟩).fx f (by decide), (show c8 h hd y p st dr from ⟨hT, hTr, hZ⟩).fx f (by decide), m9.fx f ⟨by decide, by decide, by decide, by decide, by decide, by decide⟩⟩, by rw [f1.t]; omega, by rw [f1.u]; omega, f2.t, f2.u⟩
set_option maxHeartbeats 2000000 in
theorem p_know {h : am_H} (hI : INV h) {x : Int32} {z : Bool} : PRi m_X11_know m_X12_know [.int x, .int (nI (if z = true then 1 else 0))] h := by
  obtain ⟨n, g, F, S, T, tl, tp, mc, Z, hold, kn, ks, ky, hd, y, p, st, dr, m⟩ := hI
  obtain ⟨⟨hW, h80⟩, ⟨hM, hS, hR, h2n, h0g⟩, ⟨hP, ra, hRA⟩, m3, m4, hKP, hKC, ⟨hK, hKr⟩, ⟨hT, hTr, hZ⟩, m9⟩ := id m
  obtain ⟨v1, h1, k1, q1⟩ := c_know hW hS hK (x := x) (y := z)
  cases hO : knO n kn x with
  | none =>
    rw [hO] at q1
    obtain ⟨e1, e0⟩ := q1
    subst e1
    subst e0
    obtain ⟨v2, h2, k2, q2⟩ := r_know hW hR hKr (x := x) (y := z)
    rw [hO] at q2
    obtain ⟨e2, e0⟩ := q2
    subst e2
    subst e0
    exact ⟨_, _, _, _, _, by decide, by decide, k1, k2, hW, ⟨_, _, _, _, _, _, _, _, _, _, _, _, _, _, _, _, _, _, m⟩, by omega, by omega, rfl, rfl⟩
  | some q =>
    rw [hO] at q1
    obtain ⟨e1, _, _, f1, hk1⟩ := q1
    subst e1
    have hW1 := f1.Wd hW
    have hR1 := hR.fx f1 (by decide)
    have hK1 := hKr.fx f1 (by decide)
    obtain ⟨v2, h2, k2, q2⟩ := r_know hW1 hR1 hK1 (x := x) (y := z)
    rw [hO] at q2
    obtain ⟨e2, _, _, f2, hk2⟩ := q2
    subst e2
    have f : Fx [18, 19, 68, 69] [(16, 3), (50, 36)] h h2 := (f1.mono (by decide) (by decide)).tr (f2.mono (by decide) (by decide))
    exact ⟨_, h1, h2, _, _, by decide, by decide, k1, k2, hW1, ⟨_, _, _, _, _, _, _, _, _, _, _, _, _, _, _, _, _, _, ⟨f.Wd hW, by rw [f.t]; exact h80⟩, ⟨hM.fx f (by decide), hS.fx f (by decide), hR.fx f (by decide), h2n, h0g⟩, (show c2 h tl tp from ⟨hP, ra, hRA⟩).fx f (by decide), m3.fx0 f (by decide), m4.fx f (by decide), hKP.fx f (by decide), hKC.fx f (by decide), ⟨hk1.fx f2 (by decide), hk2⟩, (show c8 h hd y p st dr from ⟨hT, hTr, hZ⟩).fx f (by decide), m9.fx f ⟨by decide, by decide, by decide, by decide, by decide, by decide⟩⟩, by rw [f1.t]; omega, by rw [f1.u]; omega, f2.t, f2.u⟩
set_option maxHeartbeats 2000000 in
theorem p_seed {h : am_H} (hI : INV h) {s : Int64} : PRi m_X11_seed m_X12_seed [.long s] h := by
  obtain ⟨n, g, F, S, T, tl, tp, mc, Z, hold, kn, ks, ky, hd, y, p, st, dr, m⟩ := hI
  obtain ⟨⟨hW, h80⟩, ⟨hM, hS, hR, h2n, h0g⟩, ⟨hP, ra, hRA⟩, m3, m4, hKP, hKC, ⟨hK, hKr⟩, ⟨hT, hTr, hZ⟩, m9⟩ := id m
  have f1 : Fx [] [(37, 1)] h (am_wL h 37 1 s) := Fx.wL (Or.inr (by decide))
  have f2 : Fx [] [(50, 42)] (am_wL h 37 1 s) (am_wL (am_wL h 37 1 s) 50 42 s) := Fx.wL (Or.inr (by decide))
  have f : Fx [] [(37, 1), (50, 42)] h (am_wL (am_wL h 37 1 s) 50 42 s) := (f1.mono (by decide) (by decide)).tr (f2.mono (by decide) (by decide))
  exact ⟨_, _, _, _, _, by decide, by decide, c_seed hW, r_seed (f1.Wd hW), f1.Wd hW, ⟨_, _, _, _, _, _, _, _, _, _, _, _, _, _, _, _, _, _, ⟨f.Wd hW, by rw [f.t]; exact h80⟩, ⟨hM.fx f (by decide), hS.fx f (by decide), hR.fx f (by decide), h2n, h0g⟩, (show c2 h tl tp from ⟨hP, ra, hRA⟩).fx f (by decide), m3.fx0 f (by decide), m4.fx f (by decide), hKP.fx f (by decide), hKC.fx f (by decide), (show c7 h n kn ks ky from ⟨hK, hKr⟩).fx f (by decide), (show c8 (am_wL (am_wL h 37 1 s) 50 42 s) hd y p st s from ⟨⟨hT.1, hT.2.1, by rw [wL_ne (by decide), wL_eq, if_pos rfl], hT.2.2.2⟩, ⟨hTr.1, hTr.2.1, by rw [wL_eq, if_pos rfl], hTr.2.2.2⟩, hZ⟩), m9.fx f ⟨by decide, by decide, by decide, by decide, by decide, by decide⟩⟩, by rw [f1.t]; omega, by rw [f1.u]; omega, f2.t, f2.u⟩
set_option maxHeartbeats 2000000 in
theorem p_sitting {h : am_H} (hI : INV h) : PRi m_X11_sitting m_X12_sitting [] h := by
  obtain ⟨n, g, F, S, T, tl, tp, mc, Z, hold, kn, ks, ky, hd, y, p, st, dr, m⟩ := hI
  obtain ⟨⟨hW, h80⟩, ⟨hM, hS, hR, h2n, h0g⟩, ⟨hP, ra, hRA⟩, m3, m4, hKP, hKC, ⟨hK, hKr⟩, ⟨hT, hTr, hZ⟩, m9⟩ := id m
  by_cases h0 : n = 0 ∨ hd = 40
  · exact ⟨_, _, _, _, _, by decide, by decide, c_sittingN hW hM hT h0, r_sittingN hW hR hTr h0, hW, ⟨_, _, _, _, _, _, _, _, _, _, _, _, _, _, _, _, _, _, m⟩, by omega, by omega, rfl, rfl⟩
  · have hl := hT.2.1
    obtain ⟨v1, h1, k1, e1, f1, t1⟩ := c_sitting hW hM hS hT (by omega) (by omega)
    subst e1
    obtain ⟨v2, h2, k2, e2, f2, t2, z2⟩ := r_sitting (f1.Wd hW) (hR.fx f1 (by decide)) (hTr.fx f1 (by decide)) (by omega) (by omega)
    subst e2
    have f : Fx [37, 38, 39, 40, 71, 72, 73] [(50, 41), (50, 42)] h h2 := (f1.mono (by decide) (by decide)).tr (f2.mono (by decide) (by decide))
    have hz2 : ZB 72 h2 := fun k hk => by
      by_cases e : k = hd
      · rw [e, (t2.2.2.2 hd (by omega)).2.2.1]
        exact b01 _
      · rw [z2 k e, f1.i (by decide) (by simp)]
        exact hZ k hk
    exact ⟨_, h1, h2, _, _, by decide, by decide, k1, k2, f1.Wd hW, ⟨_, _, _, _, _, _, _, _, _, _, _, _, _, _, _, _, _, _, ⟨f.Wd hW, by rw [f.t]; exact h80⟩, ⟨hM.fx f (by decide), hS.fx f (by decide), hR.fx f (by decide), h2n, h0g⟩, (show c2 h tl tp from ⟨hP, ra, hRA⟩).fx f (by decide), m3.fx0 f (by decide), m4.fx f (by decide), hKP.fx f (by decide), hKC.fx f (by decide), (show c7 h n kn ks ky from ⟨hK, hKr⟩).fx f (by decide), ⟨t1.fx f2 (by decide), t2, hz2⟩, m9.fx f ⟨by decide, by decide, by decide, by decide, by decide, by decide⟩⟩, by rw [f1.t]; omega, by rw [f1.u]; omega, f2.t, f2.u⟩
set_option maxHeartbeats 2000000 in
theorem p_undo {h : am_H} (hI : INV h) : PRi m_X11_undo m_X12_undo [] h := by
  obtain ⟨n, g, F, S, T, tl, tp, mc, Z, hold, kn, ks, ky, hd, y, p, st, dr, m⟩ := hI
  obtain ⟨⟨hW, h80⟩, ⟨hM, hS, hR, h2n, h0g⟩, ⟨hP, ra, hRA⟩, m3, m4, hKP, hKC, ⟨hK, hKr⟩, ⟨hT, hTr, hZ⟩, m9⟩ := id m
  cases hd with
  | zero => exact ⟨_, _, _, _, _, by decide, by decide, c_undoN (hd := 0) (y := y) (p := p) (st := st) (dr := dr) hW hT.1, r_undoN hW hTr.1, hW, ⟨_, _, _, _, _, _, _, _, _, _, _, _, _, _, _, _, _, _, m⟩, by omega, by omega, rfl, rfl⟩
  | succ hd =>
    obtain ⟨v1, h1, k1, e1, f1, t1⟩ := c_undo hW hT
    subst e1
    obtain ⟨v2, h2, k2, e2, f2, t2⟩ := r_undo (f1.Wd hW) (hTr.fx f1 (by decide))
    subst e2
    have f : Fx [37] [(50, 41), (50, 42)] h h2 := (f1.mono (by decide) (by decide)).tr (f2.mono (by decide) (by decide))
    exact ⟨_, h1, h2, _, _, by decide, by decide, k1, k2, f1.Wd hW, ⟨_, _, _, _, _, _, _, _, _, _, _, _, _, _, _, _, _, _, ⟨f.Wd hW, by rw [f.t]; exact h80⟩, ⟨hM.fx f (by decide), hS.fx f (by decide), hR.fx f (by decide), h2n, h0g⟩, (show c2 h tl tp from ⟨hP, ra, hRA⟩).fx f (by decide), m3.fx0 f (by decide), m4.fx f (by decide), hKP.fx f (by decide), hKC.fx f (by decide), (show c7 h n kn ks ky from ⟨hK, hKr⟩).fx f (by decide), ⟨t1.fx f2 (by decide), t2, hZ.fx f (by decide)⟩, m9.fx f ⟨by decide, by decide, by decide, by decide, by decide, by decide⟩⟩, by rw [f1.t]; omega, by rw [f1.u]; omega, f2.t, f2.u⟩
set_option maxHeartbeats 2000000 in
theorem p_image {h : am_H} (hI : INV h) : PRi m_X11_image m_X12_image [] h := by
  obtain ⟨n, g, F, S, T, tl, tp, mc, Z, hold, kn, ks, ky, hd, y, p, st, dr, m⟩ := hI
  obtain ⟨⟨hW, h80⟩, ⟨hM, hS, hR, h2n, h0g⟩, ⟨hP, ra, hRA⟩, m3, m4, hKP, hKC, ⟨hK, hKr⟩, ⟨hT, hTr, hZ⟩, m9⟩ := id m
  by_cases h0 : n = 0
  · exact ⟨_, _, _, _, _, by decide, by decide, c_imageN hW hM h0, r_imageN hW hR h0, hW, ⟨_, _, _, _, _, _, _, _, _, _, _, _, _, _, _, _, _, _, m⟩, by omega, by omega, rfl, rfl⟩
  · obtain ⟨v1, h1, k1, e1, f1, a1, a2, a3, a4⟩ := c_image hW hM hS hT h0
    subst e1
    obtain ⟨v2, h2, k2, e2, f2, b1, b2, b3, b4⟩ := r_image (f1.Wd hW) (hR.fx f1 (by decide)) (hTr.fx f1 (by decide)) (hZ.fx f1 (by decide)) h0
    subst e2
    have f : Fx [41, 42, 43, 44, 45, 46, 47, 48, 49, 74, 75, 76, 77, 78] [(0, 13), (50, 48), (50, 49), (50, 50)] h h2 := (f1.mono (by decide) (by decide)).tr (f2.mono (by decide) (by decide))
    exact ⟨_, h1, h2, _, _, by decide, by decide, k1, k2, f1.Wd hW, ⟨_, _, _, _, _, _, _, _, _, _, _, _, _, _, _, _, _, _, ⟨f.Wd hW, by rw [f.t]; exact h80⟩, ⟨hM.fx f (by decide), hS.fx f (by decide), hR.fx f (by decide), h2n, h0g⟩, (show c2 h tl tp from ⟨hP, ra, hRA⟩).fx f (by decide), m3.fx0 f (by decide), m4.fx f (by decide), hKP.fx f (by decide), hKC.fx f (by decide), (show c7 h n kn ks ky from ⟨hK, hKr⟩).fx f (by decide), (show c8 h hd y p st dr from ⟨hT, hTr, hZ⟩).fx f (by decide), Or.inr ⟨(f2.i (by decide) (by decide)).trans a4, b4, F, S, T, hd, y, p, st, dr, a1.fx f2 (by decide), a2.fx f2 (by decide), a3.fx f2 (by decide), b1, b2, b3, fun _ _ _ _ _ _ => rfl⟩⟩, by rw [f1.t]; omega, by rw [f1.u]; omega, f2.t, f2.u⟩
set_option maxHeartbeats 2000000 in
theorem p_back {h : am_H} (hI : INV h) : PRi m_X11_back m_X12_back [] h := by
  obtain ⟨n, g, F, S, T, tl, tp, mc, Z, hold, kn, ks, ky, hd, y, p, st, dr, m⟩ := hI
  obtain ⟨⟨hW, h80⟩, ⟨hM, hS, hR, h2n, h0g⟩, ⟨hP, ra, hRA⟩, m3, m4, hKP, hKC, ⟨hK, hKr⟩, ⟨hT, hTr, hZ⟩, m9⟩ := id m
  rcases m9 with ⟨i1, i2⟩ | ⟨i1, i2, F', S', T', hd', y', p', st', dr', a1, a2, a3, a4, a5, a6, a7⟩
  · exact ⟨_, _, _, _, _, by decide, by decide, c_backN hW i1, r_backN hW i2, hW, ⟨_, _, _, _, _, _, _, _, _, _, _, _, _, _, _, _, _, _, m⟩, by omega, by omega, rfl, rfl⟩
  · obtain ⟨v1, h1, k1, e1, f1, b1, b2, b3, kf⟩ := c_back hW a1 a2 a3 i1
    subst e1
    obtain ⟨v2, h2, k2, e2, f2, d1, d2, d3⟩ := r_back (f1.Wd hW) (hR.fx f1 (by decide)) (a5.fx f1 (by decide)) (a6.fx f1 (by decide)) (a4.fx f1 (by decide)) a7 ((f1.i (by decide) (by decide)).trans i2)
    subst e2
    have f : Fx [9, 10, 11, 12, 13, 37, 38, 39, 40, 26, 62, 63, 71, 72, 73] [(29, 7), (50, 41), (50, 42)] h h2 := (f1.mono (by decide) (by decide)).tr (f2.mono (by decide) (by decide))
    exact ⟨_, h1, h2, _, _, by decide, by decide, k1, k2, f1.Wd hW, ⟨_, _, _, _, _, _, _, _, _, _, _, _, _, _, _, _, _, _, ⟨f.Wd hW, by rw [f.t]; exact h80⟩, ⟨b1.fx f2 (by decide), b2.fx f2 (by decide), d1, h2n, h0g⟩, (show c2 h tl tp from ⟨hP, ra, hRA⟩).fx f (by decide), m3.fx0 f (by decide), m4.fx f (by decide), KP.z (fun w hw => (f2.i (by decide) (by simp)).trans (kf.1 w hw)), Or.inl ((f2.i (by decide) (by decide)).trans kf.2), (show c7 h n kn ks ky from ⟨hK, hKr⟩).fx f (by decide), ⟨b3.fx f2 (by decide), d2, d3⟩, Or.inr ⟨(f.i (by decide) (by decide)).trans i1, (f.i (by decide) (by decide)).trans i2, F', S', T', hd', y', p', st', dr', a1.fx f (by decide), a2.fx f (by decide), a3.fx f (by decide), a4.fx f (by decide), a5.fx f (by decide), a6.fx f (by decide), fun _ _ _ _ _ _ => rfl⟩⟩, by rw [f1.t]; omega, by rw [f1.u]; omega, f2.t, f2.u⟩
set_option maxHeartbeats 2000000 in
theorem p_feed {h : am_H} (hI : INV h) {a b c d e : Int32} : PRi m_X11_feed m_X12_feed [.int a, .int b, .int c, .int d, .int e] h := by
  obtain ⟨n, g, F, S, T, tl, tp, mc, Z, hold, kn, ks, ky, hd, y, p, st, dr, m⟩ := hI
  obtain ⟨⟨hW, h80⟩, ⟨hM, hS, hR, h2n, h0g⟩, ⟨hP, ra, hRA⟩, m3, m4, hKP, hKC, ⟨hK, hKr⟩, ⟨hT, hTr, hZ⟩, m9⟩ := id m
  obtain ⟨v1, h1, k1, q1⟩ := c_feed hW hP (a := a) (b := b) (c := c) (d := d) (e := e)
  by_cases hl : tl + ct (nz (q20 a b c d e)) 20 ≤ 160
  · rw [if_pos hl] at q1
    obtain ⟨e1, f1, t1⟩ := q1
    subst e1
    obtain ⟨v2, h2, k2, q2⟩ := r_feed (f1.Wd hW) (hRA.1.fx f1 (by decide)) (a := a) (b := b) (c := c) (d := d) (e := e)
    rw [if_pos hl] at q2
    obtain ⟨e2, f2, t2⟩ := q2
    subst e2
    have f : Fx [2, 51] [(1, 1), (50, 2)] h h2 := (f1.mono (by decide) (by decide)).tr (f2.mono (by decide) (by decide))
    exact ⟨_, h1, h2, _, _, by decide, by decide, k1, k2, f1.Wd hW, ⟨_, _, _, _, _, _, _, _, _, _, _, _, _, _, _, _, _, _, ⟨f.Wd hW, by rw [f.t]; exact h80⟩, ⟨hM.fx f (by decide), hS.fx f (by decide), hR.fx f (by decide), h2n, h0g⟩, ⟨t1.fx f2 (by decide), ra, t2, (f.i (by decide) (by decide)).trans hRA.2.1, hRA.2.2⟩, m3.fx0 f (by decide), m4.fx f (by decide), hKP.fx f (by decide), hKC.fx f (by decide), (show c7 h n kn ks ky from ⟨hK, hKr⟩).fx f (by decide), (show c8 h hd y p st dr from ⟨hT, hTr, hZ⟩).fx f (by decide), m9.fx f ⟨by decide, by decide, by decide, by decide, by decide, by decide⟩⟩, by rw [f1.t]; omega, by rw [f1.u]; omega, f2.t, f2.u⟩
  · rw [if_neg hl] at q1
    obtain ⟨e1, e0⟩ := q1
    subst e1
    subst e0
    obtain ⟨v2, h2, k2, q2⟩ := r_feed hW hRA.1 (a := a) (b := b) (c := c) (d := d) (e := e)
    rw [if_neg hl] at q2
    obtain ⟨e2, e0⟩ := q2
    subst e2
    subst e0
    exact ⟨_, _, _, _, _, by decide, by decide, k1, k2, hW, ⟨_, _, _, _, _, _, _, _, _, _, _, _, _, _, _, _, _, _, m⟩, by omega, by omega, rfl, rfl⟩
set_option maxHeartbeats 2000000 in
theorem p_end {h : am_H} (hI : INV h) {x : Int32} : PRi m_X11_end m_X12_end [.int x] h := by
  obtain ⟨n, g, F, S, T, tl, tp, mc, Z, hold, kn, ks, ky, hd, y, p, st, dr, m⟩ := hI
  obtain ⟨⟨hW, h80⟩, ⟨hM, hS, hR, h2n, h0g⟩, ⟨hP, ra, hRA⟩, m3, m4, hKP, hKC, ⟨hK, hKr⟩, ⟨hT, hTr, hZ⟩, m9⟩ := id m
  have k1 := c_end hW hP (x := x)
  cases hr : rg x (tl + 1) with
  | none =>
    have k2 := r_end hW hRA.1 (x := x)
    rw [hr] at k1 k2
    exact ⟨_, _, _, _, _, by decide, by decide, k1, k2, hW, ⟨_, _, _, _, _, _, _, _, _, _, _, _, _, _, _, _, _, _, m⟩, by omega, by omega, rfl, rfl⟩
  | some k =>
    have hkl := hP.2.1
    obtain ⟨_, hk⟩ := rg_some (by omega) hr
    have f1 : Fx [] [(1, 1)] h (am_wI h 1 1 (nI k)) := Fx.wI (Or.inr (by decide))
    have k2 := r_end (f1.Wd hW) (hRA.1.fx f1 (by decide)) (x := x)
    have f2 : Fx [] [(50, 2)] (am_wI h 1 1 (nI k)) (am_wI (am_wI h 1 1 (nI k)) 50 2 (nI k)) := Fx.wI (Or.inr (by decide))
    rw [hr] at k1 k2
    have f : Fx [] [(1, 1), (50, 2)] h (am_wI (am_wI h 1 1 (nI k)) 50 2 (nI k)) := (f1.mono (by decide) (by decide)).tr (f2.mono (by decide) (by decide))
    exact ⟨_, _, _, _, _, by decide, by decide, k1, k2, f1.Wd hW, ⟨_, _, _, _, _, _, _, _, _, _, _, _, _, _, _, _, _, _, ⟨f.Wd hW, by rw [f.t]; exact h80⟩, ⟨hM.fx f (by decide), hS.fx f (by decide), hR.fx f (by decide), h2n, h0g⟩, (show c2 (am_wI (am_wI h 1 1 (nI k)) 50 2 (nI k)) k tp from ⟨⟨by rw [wI_ne (by decide), wI_e0], by omega, fun i hi => hP.2.2 i (by omega)⟩, ra, ⟨wI_e0, by omega, fun i hi => hRA.1.2.2 i (by omega)⟩, (f.i (by decide) (by decide)).trans hRA.2.1, hRA.2.2⟩), m3.fx0 f (by decide), m4.fx f (by decide), hKP.fx f (by decide), hKC.fx f (by decide), (show c7 h n kn ks ky from ⟨hK, hKr⟩).fx f (by decide), (show c8 h hd y p st dr from ⟨hT, hTr, hZ⟩).fx f (by decide), m9.fx f ⟨by decide, by decide, by decide, by decide, by decide, by decide⟩⟩, by rw [f1.t]; omega, by rw [f1.u]; omega, f2.t, f2.u⟩
