/-! what a throw does where the first row of the method's table takes it: our own rows, from the search's own text -/
section UCA
theorem uc_find {e : Env} {S : State} {f : JFrame} {a : Addr} {x : ExceptionTableEntry} {suf : List ExceptionTableEntry} {k : ClassId} {ce : Cell} {md : Method} {cd : Code}
    (hm : S.vm.method? f.method = some md) (hc : md.code = some cd) (htab : cd.exceptionTable.toList = x :: suf) (hx : covers x f.pc = true) (h0 : x.catchType ≠ 0)
    (hl : S.vm.ClassLinks e.platform f.method.cls x.catchType k) (hce : S.heap[a]? = some ce) (hv : ce.vm = .none) {k1 k2 : Class}
    (h1 : (S.vm.noted f.method.cls x.catchType (.cls k)).classes[ce.cls]? = some k1) (h2 : (S.vm.noted f.method.cls x.catchType (.cls k)).classes[k]? = some k2)
    (hfit : (S.vm.noted f.method.cls x.catchType (.cls k)).assignable ce.cls k = true) (Q : Handler → Pre) (E : CtlPost) (d : Bool) (acts : List Action) :
    wp (findHandler f a) Q E e d acts S ↔ Q (.found x.handlerPc) d acts (S.setVm (S.vm.noted f.method.cls x.catchType (.cls k))) := by
  have hlo : x.startPc ≤ f.pc := by
    have := hx
    simp only [covers, Bool.and_eq_true, decide_eq_true_eq] at this
    exact this.1
  have hhi : f.pc < x.endPc := by
    have := hx
    simp only [covers, Bool.and_eq_true, decide_eq_true_eq] at this
    exact this.2
  obtain ⟨ha, ht⟩ := (resolveClass_links e.toSetting hl).op (op := VmOp.resolveClass f.method.cls x.catchType) rfl
  have hno : ∀ z, ce.vm ≠ .statics z := by
    intro z hz
    rw [hv] at hz
    cases hz
  rw [Jvm.W.findHandler_eq hm hc, htab]
  simp [findHandler.go, hlo, hhi, h0, ha, ht, hce, hno, h1, h2, hfit, VmOp.dirties, VmOp.acts]
theorem uc_step {e : Env} {S S' : State} {f : JFrame} {a : Addr} {r : List Frame} {pc : Nat}
    (hf : ∀ (Q : Handler → Pre) (E : CtlPost) (d : Bool) (acts : List Action), wp (findHandler f a) Q E e d acts S ↔ Q (.found pc) d acts S') :
    (stepThrowing e S a (.java f :: r)).1 = S'.setFrames (.java { f with pc := pc, stack := [.ref a] } :: r) := by
  simp only [stepThrowing, searchFrame, vmDo]
  generalize hr : Sem.go _ e false [] S = res
  obtain ⟨as, rfl, -⟩ := Sem.eq_ok_of hr (a := Handler.found pc) (s' := S') (acts' := []) (by simp [hf])
  rfl
theorem uc_steps {tb : Tables} {e : Env} {T t : State} {g : JFrame} {c : Code} {below : List Frame} {a : Addr} {pc : Nat} {vm : Vm} (h : At T g.method c below)
    (hf : ∀ (Q : Handler → Pre) (E : CtlPost) (d : Bool) (acts : List Action), wp (findHandler g a) Q E e d acts ((T.setTop g).pushFrame (.throwing a)) ↔ Q (.found pc) d acts (((T.setTop g).pushFrame (.throwing a)).setVm vm))
    (hgo : Steps tb e below ((T.setVm vm).setTop { g with pc := pc, stack := [.ref a] }) t) : Steps tb e below ((T.setTop g).pushFrame (.throwing a)) t := by
  obtain ⟨h1, h2⟩ := h.throwing a
  refine Steps.head h1 h2 ?_
  rw [stepThread_throwing (frames_entered h.top _), uc_step hf]
  obtain ⟨g₀, hg⟩ := Option.isSome_iff_exists.mp h.top
  obtain ⟨r, hr⟩ := State.topJava?_eq_some.mp hg
  have hr' : (T.setVm vm).frames = .java g₀ :: r := hr
  rw [State.setTop_of_frames _ hr'] at hgo
  have e1 : (((T.setTop g).pushFrame (.throwing a)).setVm vm).setFrames (.java { g with pc := pc, stack := [.ref a] } :: T.frames.tail) = (T.setVm vm).setFrames (.java { g with pc := pc, stack := [.ref a] } :: r) := by
    rw [State.pushFrame, State.setTop_of_frames _ hr, State.setFrames_setFrames, hr]
    exact State.setFrames_setFrames (T.setVm vm) _ _
  rw [e1]
  exact hgo
end UCA
section UCB
variable {p : Program} {l : Launch} {e : Env} {R : Room} {s : State} {m : MethodId} {args : Array Value} {below : List Frame} {meth : Method} {c : Code} {H : Heap} {locs : List Loc} {cells slots : Nat} {Q : State → Prop} {pc : Nat} {ls : Array Slot} {rest : List Value}
theorem uc_catch {own name E : String} {ce : Cell} {q : Addr} (hown : s.vm.findClass own = some m.cls) (x : ExceptionTableEntry) (suf : List ExceptionTableEntry) (htab : c.exceptionTable.toList = x :: suf)
    (hx : covers x pc = true) (h0 : x.catchType ≠ 0) (hlink : (Cond.classLink own x.catchType name).before args s = true) (hcast : (Cond.castable E name).before args s = true)
    (hce : H[q]? = some ce) (hv : ce.vm = .none) (hcl : s.vm.findClass E = some ce.cls) (kk : W p l e R s m args below meth c H locs cells slots Q (F0 m x.handlerPc ls [.ref q])) :
    vx_W p l e R s m args below meth c H locs cells slots Q (F0 m pc ls rest) q := by
  intro T hT X
  have hpl : e.platform.magicAccessors = ({} : Platform).magicAccessors := by rw [X.admits.platform]
  obtain ⟨ka, kb, hka, hkb, hasg⟩ := Cond.castable_spec hcast
  cases Option.some.inj (hka.symm.trans hcl)
  obtain ⟨kc, hkc, hls⟩ := Cond.classLink_spec hown hlink e.platform hpl
  cases Option.some.inj (hkb.symm.trans hkc)
  obtain ⟨dk, _, _, kt, hd, _, _, _, _, hkt, _, hopen⟩ := hls.here
  have hW := X.warmed.noted hd hopen (State.rightAt_cls hls)
  obtain ⟨k1, h1, -⟩ := Vm.findClass_spec hcl
  obtain ⟨n1, hn1, -⟩ := hW.alike.2.2 _ _ h1
  obtain ⟨n2, hn2, -⟩ := hW.alike.2.2 _ _ hkt
  have hfit : (T.vm.noted m.cls x.catchType (.cls kb)).assignable ce.cls kb = true := by rw [hW.alike.assignable]; exact hasg
  obtain ⟨t, ht, hQ⟩ := kk (T.setVm (T.vm.noted m.cls x.catchType (.cls kb))) hT (X.noted hW)
  refine ⟨t, uc_steps (g := F0 m pc ls rest) X.here ?_ ht, hQ⟩
  exact uc_find (S := (T.setTop (F0 m pc ls rest)).pushFrame (.throwing q)) (f := F0 m pc ls rest) X.method' X.code htab hx h0 (X.warmed.classLinks hls) (by rw [← hT] at hce; exact hce) hv hn1 hn2 hfit
end UCB
