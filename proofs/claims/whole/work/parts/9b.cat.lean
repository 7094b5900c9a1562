/-! a throw that the one row of a method's table takes -/
/-- the search ends at pc, the tables left as vm' -/
def th_Fd (e : Env) (s : State) (f : JFrame) (a : Addr) (pc : Nat) (vm' : Vm) : Prop := ∀ (Q : Handler → Pre) (E : CtlPost) (d : Bool) (acts : List Action), wp (findHandler f a) Q E e d acts s ↔ Q (.found pc) d acts (s.setVm vm')
theorem th_row {e : Env} {s : State} {f : JFrame} {a : Addr} {meth : Method} {code : Code} {x : ExceptionTableEntry} {c : ClassId} {cell : Cell} (hm : s.vm.method? f.method = some meth) (hc : meth.code = some code) (ht : code.exceptionTable.toList = [x]) (hx : covers x f.pc = true) (h0 : x.catchType ≠ 0)
    (hl : s.vm.ClassLinks e.platform f.method.cls x.catchType c) (hcell : s.heap[a]? = some cell) (hobj : ∀ k, cell.vm ≠ .statics k) (hk : ∃ k, s.vm.classes[cell.cls]? = some k) (hk' : ∃ k, s.vm.classes[c]? = some k) (hfit : s.vm.assignable cell.cls c = true) : th_Fd e s f a x.handlerPc (s.vm.noted f.method.cls x.catchType (.cls c)) := by
  intro Q E d acts
  have hal : s.vm.Alike (s.vm.noted f.method.cls x.catchType (.cls c)) := (Vm.Alike.refl s.vm).noted _ _ _
  obtain ⟨ho1, ho2⟩ := (resolveClass_links e.toSetting hl).op (op := VmOp.resolveClass f.method.cls x.catchType) rfl
  obtain ⟨k1, q1⟩ := hk
  obtain ⟨k2, q2⟩ := hk'
  obtain ⟨k3, q3, -⟩ := hal.2.2 _ _ q1
  obtain ⟨k4, q4, -⟩ := hal.2.2 _ _ q2
  have q5 : (s.vm.noted f.method.cls x.catchType (.cls c)).assignable cell.cls c = true := (hal.assignable _ _).trans hfit
  simp only [covers] at hx
  rw [W.findHandler_eq hm hc, ht]
  simp [findHandler.go, hx, h0, ho1, ho2, hcell, hobj, q3, q4, q5, VmOp.dirties, VmOp.acts]
/-- one step of the machine: from the throw to the row's own code -/
theorem th_step {tb : Tables} {e : Env} {s target : State} {g : JFrame} {c : Code} {below : List Frame} {a : Addr} {pc : Nat} {vm' : Vm} (h : At s g.method c below) (hf : th_Fd e ((s.setTop g).pushFrame (.throwing a)) g a pc vm') (hr : Steps tb e below ((s.setVm vm').setTop { g with pc := pc, stack := [.ref a] }) target) : Steps tb e below ((s.setTop g).pushFrame (.throwing a)) target := by
  obtain ⟨hgo, hw⟩ := h.throwing a
  obtain ⟨g₀, hg₀⟩ := Option.isSome_iff_exists.mp h.top
  obtain ⟨r, hfr⟩ := State.topJava?_eq_some.mp hg₀
  have hone : (stepThrowing e ((s.setTop g).pushFrame (.throwing a)) a (.java g :: s.frames.tail)).1 = (((s.setTop g).pushFrame (.throwing a)).setVm vm').setFrames (.java { g with pc := pc, stack := [.ref a] } :: s.frames.tail) := by
    simp only [stepThrowing, searchFrame, vmDo]
    generalize hz : Sem.go _ e false [] ((s.setTop g).pushFrame (.throwing a)) = res
    obtain ⟨as, rfl, ha⟩ := Sem.eq_ok_of hz (a := Handler.found pc) (s' := ((s.setTop g).pushFrame (.throwing a)).setVm vm') (acts' := []) (by simp [hf _ _ _ _])
    rfl
  have hfr' : (s.setVm vm').frames = .java g₀ :: r := hfr
  have e1 : (((s.setTop g).pushFrame (.throwing a)).setVm vm').setFrames (.java { g with pc := pc, stack := [.ref a] } :: s.frames.tail) = (s.setVm vm').setTop { g with pc := pc, stack := [.ref a] } := by
    rw [State.setTop_of_frames _ hfr', State.setTop_of_frames _ hfr, hfr, List.tail_cons]
    show (((s.setFrames _).setFrames _).setVm vm').setFrames _ = _
    rw [State.setFrames_setFrames]
    show ((s.setVm vm').setFrames _).setFrames _ = _
    rw [State.setFrames_setFrames]
  refine Steps.head hgo hw ?_
  rw [stepThread_throwing (frames_entered h.top _), hone, e1]
  exact hr
section THC
variable {p : Program} {l : Launch} {e : Env} {R : Room} {s : State} {m : MethodId} {args : Array Value} {below : List Frame} {meth : Method} {c : Code} {H : Heap} {locs : List Loc} {cells slots : Nat} {Q : State → Prop} {ls : Array Slot} {rest : List Value}
/-- the throw q over this frame is taken by the only row of the method's table -/
theorem th_catch {own name E : String} {pc : Nat} {ce : Cell} {q : Addr} {x : ExceptionTableEntry} (hown : s.vm.findClass own = some m.cls) (ht : c.exceptionTable.toList = [x]) (hx : covers x pc = true) (h0 : x.catchType ≠ 0) (hlink : (Cond.classLink own x.catchType name).before args s = true) (hcast : (Cond.castable E name).before args s = true) (hcell : H[q]? = some ce) (hv : ce.vm = .none) (hcl : s.vm.findClass E = some ce.cls)
    (kk : W p l e R s m args below meth c H locs cells slots Q (F0 m x.handlerPc ls [.ref q])) : vx_W p l e R s m args below meth c H locs cells slots Q (F0 m pc ls rest) q := by
  intro T hT X
  have hpl : e.platform.magicAccessors = ({} : Platform).magicAccessors := by rw [X.admits.platform]
  obtain ⟨c3, c4, hc3, hc4, hasg⟩ := Cond.castable_spec hcast
  cases Option.some.inj (hc3.symm.trans hcl)
  obtain ⟨c5, hc5, hcl5⟩ := Cond.classLink_spec hown hlink e.platform hpl
  cases Option.some.inj (hc4.symm.trans hc5)
  obtain ⟨dk, _, _, kt, hd, _, _, _, _, hkt, _, hopen⟩ := hcl5.here
  have hal := X.warmed.alike
  have hW' : s.WarmedH (T.vm.noted m.cls x.catchType (.cls c4)) := X.warmed.noted hd hopen (State.rightAt_cls hcl5)
  obtain ⟨kt', hkt', -⟩ := hal.2.2 _ _ hkt
  have hfit : T.vm.assignable ce.cls c4 = true := (hal.assignable _ _).trans hasg
  obtain ⟨t, a1, b1⟩ := kk (T.setVm (T.vm.noted m.cls x.catchType (.cls c4))) hT (X.noted hW')
  refine ⟨t, th_step X.here ?_ a1, b1⟩
  refine th_row (s := (T.setTop (F0 m pc ls rest)).pushFrame (.throwing q)) (f := F0 m pc ls rest) (meth := meth) (code := c) X.method' X.code ht hx h0 (c := c4) (cell := ce) (X.warmed.classLinks hcl5) ?_ ?_ (Vm.classAt_of_assignable hfit ⟨kt', hkt'⟩) ⟨kt', hkt'⟩ hfit
  · show T.heap[q]? = some ce
    rw [hT]
    exact hcell
  · exact VmData.ne_statics_of (by rw [hv]; rfl)
end THC
