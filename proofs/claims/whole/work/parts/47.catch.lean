section VT
variable {p : Program} {l : Launch} {e : Env} {R : Room} {s : State} {m : MethodId} {args : Array Value} {below : List Frame} {meth : Method} {c : Code} {H : Heap} {locs : List Loc} {cells slots : Nat} {Q : State → Prop}
/-- one entry of a handler's table whose class may still have to be looked up -/
theorem vt_go {f : JFrame} {a : Addr} {d : Bool} {acts : List Action} {T : State} {Qh : Handler → Pre} {Eh : CtlPost} {x : ExceptionTableEntry} {t : List ExceptionTableEntry} {k : ClassId} {cell : Cell} (hx : covers x f.pc = true) (h0 : x.catchType ≠ 0)
    (hl : T.vm.ClassLinks e.platform f.method.cls x.catchType k) (hcell : T.heap[a]? = some cell) (hobj : cell.vm = .none) (hk : ∃ z, T.vm.classes[cell.cls]? = some z) (hc : ∃ z, T.vm.classes[k]? = some z) :
    wp (findHandler.go f a (x :: t)) Qh Eh e d acts T ↔ if T.vm.assignable cell.cls k = true then Qh (.found x.handlerPc) d acts (T.setVm (T.vm.noted f.method.cls x.catchType (.cls k))) else wp (findHandler.go f a t) Qh Eh e d acts (T.setVm (T.vm.noted f.method.cls x.catchType (.cls k))) := by
  have hno : ∀ z, cell.vm ≠ .statics z := fun z h => by rw [hobj] at h; cases h
  obtain ⟨hop, hok⟩ := (resolveClass_links e.toSetting hl).op (op := VmOp.resolveClass f.method.cls x.catchType) rfl
  have hal : T.vm.Alike (T.vm.noted f.method.cls x.catchType (.cls k)) := (Vm.Alike.refl T.vm).noted _ _ _
  obtain ⟨z1, hz1⟩ := hk
  obtain ⟨z2, hz2⟩ := hc
  obtain ⟨y1, hy1, -⟩ := hal.2.2 _ _ hz1
  obtain ⟨y2, hy2, -⟩ := hal.2.2 _ _ hz2
  have hasg : (T.vm.noted f.method.cls x.catchType (.cls k)).assignable cell.cls k = T.vm.assignable cell.cls k := hal.assignable _ _
  simp only [covers] at hx
  cases hfit : T.vm.assignable cell.cls k <;> rw [hfit] at hasg <;> simp [findHandler.go, hx, h0, hop, hok, hcell, hno, hy1, hy2, hasg, VmOp.dirties, VmOp.acts]
/-- caught: the walk goes on at the handler -/
theorem vt_caught {T : State} {vm' : Vm} (X : Stand p l e R s m args below meth c T locs cells slots) {g : JFrame} (hg : g.method = m) {x : Addr} {pc : Nat}
    (hf : ∀ (Qh : Handler → Pre) (Eh : CtlPost) (d : Bool) (acts : List Action), wp (findHandler g x) Qh Eh e d acts ((T.setTop g).pushFrame (.throwing x)) ↔ Qh (.found pc) d acts (((T.setTop g).pushFrame (.throwing x)).setVm vm')) {target : State}
    (hr : Steps p.tables e below ((T.setVm vm').setTop { g with pc := pc, stack := [.ref x] }) target) : Steps p.tables e below ((T.setTop g).pushFrame (.throwing x)) target := by
  have h : At T g.method c below := by rw [hg]; exact X.here
  obtain ⟨hgo, hw⟩ := h.throwing x
  obtain ⟨g₀, hg0⟩ := Option.isSome_iff_exists.mp h.top
  obtain ⟨fr, hfr⟩ := State.topJava?_eq_some.mp hg0
  have hfr' : (T.setVm vm').frames = .java g₀ :: fr := hfr
  have hstep : (stepThrowing e ((T.setTop g).pushFrame (.throwing x)) x (.java g :: T.frames.tail)).Is ((((T.setTop g).pushFrame (.throwing x)).setVm vm').setFrames (.java { g with pc := pc, stack := [.ref x] } :: T.frames.tail)) [] := by
    simp only [stepThrowing, searchFrame, vmDo]
    generalize hres : Sem.go _ e false [] ((T.setTop g).pushFrame (.throwing x)) = res
    obtain ⟨as, rfl, ha⟩ := Sem.eq_ok_of hres (a := Handler.found pc) (s' := ((T.setTop g).pushFrame (.throwing x)).setVm vm') (acts' := []) (by simp [hf _ _ _ _])
    exact ⟨rfl, ha⟩
  refine Steps.head hgo hw ?_
  rw [stepThread_throwing (frames_entered h.top _), hstep.1]
  rw [State.setTop_of_frames _ hfr'] at hr
  have hsv : ∀ (u : State) (F G : List Frame), ((u.setFrames F).setVm vm').setFrames G = (u.setVm vm').setFrames G := fun u F G => by
    show ((u.setVm vm').setFrames F).setFrames G = _
    rw [State.setFrames_setFrames]
  rw [hfr, List.tail_cons, State.pushFrame, hsv, State.setTop_of_frames _ hfr, hsv]
  exact hr
variable {ls : Array Slot} {rest : List Value} {pc : Nat}
theorem vt_vm (T : State) (g : JFrame) (x : Addr) : ((T.setTop g).pushFrame (.throwing x)).vm = T.vm := Stand.throwing_vm T g x
/-- caught by the first entry -/
theorem vt_catch1 {own name E : String} {ce : Cell} {x : Addr} {xe : ExceptionTableEntry} {suf : List ExceptionTableEntry} (hown : s.vm.findClass own = some m.cls) (htb : c.exceptionTable.toList = xe :: suf) (hx : covers xe pc = true) (h0 : xe.catchType ≠ 0)
    (hlink : (Cond.classLink own xe.catchType name).before args s = true) (hcast : (Cond.castable E name).before args s = true) (hcell : H[x]? = some ce) (hv : ce.vm = .none) (hcl : s.vm.findClass E = some ce.cls)
    (kk : W p l e R s m args below meth c H locs cells slots Q (F0 m xe.handlerPc ls [.ref x])) : vt_W p l e R s m args below meth c H locs cells slots Q (F0 m pc ls rest) x := by
  intro T hT X
  have hpl : e.platform.magicAccessors = ({} : Platform).magicAccessors := by rw [X.admits.platform]
  obtain ⟨c3, c4, hc3, hc4, hasg⟩ := Cond.castable_spec hcast
  cases Option.some.inj (hc3.symm.trans hcl)
  obtain ⟨c5, hc5, hl5⟩ := Cond.classLink_spec hown hlink e.platform hpl
  cases Option.some.inj (hc4.symm.trans hc5)
  obtain ⟨-, hW1, -⟩ := State.classEntry (e := e) X.warmed hl5
  obtain ⟨z1, hz1, -⟩ := Vm.findClass_spec hcl
  obtain ⟨z2, hz2, -⟩ := Vm.findClass_spec hc4
  obtain ⟨y1, hy1, -⟩ := X.warmed.alike.2.2 _ _ hz1
  obtain ⟨y2, hy2, -⟩ := X.warmed.alike.2.2 _ _ hz2
  obtain ⟨t, a1, b1⟩ := kk (T.setVm (T.vm.noted m.cls xe.catchType (.cls c4))) hT (X.noted hW1)
  refine ⟨t, vt_caught X (g := F0 m pc ls rest) rfl (fun Qh Eh d acts => ?_) a1, b1⟩
  rw [W.findHandler_eq (f := F0 m pc ls rest) (by rw [vt_vm]; exact X.method') X.code, htb]
  rw [vt_go (T := (T.setTop (F0 m pc ls rest)).pushFrame (.throwing x)) (f := F0 m pc ls rest) (k := c4) hx h0 (by rw [vt_vm]; exact X.warmed.classLinks hl5) (by rw [Stand.throwing_heap, hT]; exact hcell) hv (by rw [vt_vm]; exact ⟨y1, hy1⟩) (by rw [vt_vm]; exact ⟨y2, hy2⟩)]
  rw [vt_vm, if_pos (by rw [X.warmed.alike.assignable]; exact hasg)]
/-- the first entry is of another class, the second one takes it -/
theorem vt_catch2 {own name nm1 E : String} {ce : Cell} {x : Addr} {xe ye : ExceptionTableEntry} {suf : List ExceptionTableEntry} (hown : s.vm.findClass own = some m.cls) (htb : c.exceptionTable.toList = ye :: xe :: suf) (hy : covers ye pc = true) (hy0 : ye.catchType ≠ 0) (hx : covers xe pc = true) (h0 : xe.catchType ≠ 0)
    (hlink1 : (Cond.classLink own ye.catchType nm1).before args s = true) (hno : va_Nc E nm1 s)
    (hlink : (Cond.classLink own xe.catchType name).before args s = true) (hcast : (Cond.castable E name).before args s = true) (hcell : H[x]? = some ce) (hv : ce.vm = .none) (hcl : s.vm.findClass E = some ce.cls)
    (kk : W p l e R s m args below meth c H locs cells slots Q (F0 m xe.handlerPc ls [.ref x])) : vt_W p l e R s m args below meth c H locs cells slots Q (F0 m pc ls rest) x := by
  intro T hT X
  have hpl : e.platform.magicAccessors = ({} : Platform).magicAccessors := by rw [X.admits.platform]
  obtain ⟨c3, c4, hc3, hc4, hasg⟩ := Cond.castable_spec hcast
  cases Option.some.inj (hc3.symm.trans hcl)
  obtain ⟨c5, hc5, hl5⟩ := Cond.classLink_spec hown hlink e.platform hpl
  cases Option.some.inj (hc4.symm.trans hc5)
  obtain ⟨c6, hc6, hl6⟩ := Cond.classLink_spec hown hlink1 e.platform hpl
  obtain ⟨c7, c8, hc7, hc8, hnas⟩ := hno
  cases Option.some.inj (hc7.symm.trans hcl)
  cases Option.some.inj (hc8.symm.trans hc6)
  obtain ⟨-, hW1, -⟩ := State.classEntry (e := e) X.warmed hl6
  obtain ⟨-, hW2, -⟩ := State.classEntry (e := e) hW1 hl5
  obtain ⟨z1, hz1, -⟩ := Vm.findClass_spec hcl
  obtain ⟨z2, hz2, -⟩ := Vm.findClass_spec hc4
  obtain ⟨z3, hz3, -⟩ := Vm.findClass_spec hc6
  obtain ⟨y1, hy1, -⟩ := X.warmed.alike.2.2 _ _ hz1
  obtain ⟨y3, hy3, -⟩ := X.warmed.alike.2.2 _ _ hz3
  obtain ⟨w1, hw1, -⟩ := hW1.alike.2.2 _ _ hz1
  obtain ⟨w2, hw2, -⟩ := hW1.alike.2.2 _ _ hz2
  obtain ⟨t, a1, b1⟩ := kk (T.setVm ((T.vm.noted m.cls ye.catchType (.cls c6)).noted m.cls xe.catchType (.cls c4))) hT (X.noted hW2)
  refine ⟨t, vt_caught X (g := F0 m pc ls rest) rfl (fun Qh Eh d acts => ?_) a1, b1⟩
  rw [W.findHandler_eq (f := F0 m pc ls rest) (by rw [vt_vm]; exact X.method') X.code, htb]
  rw [vt_go (T := (T.setTop (F0 m pc ls rest)).pushFrame (.throwing x)) (f := F0 m pc ls rest) (k := c6) hy hy0 (by rw [vt_vm]; exact X.warmed.classLinks hl6) (by rw [Stand.throwing_heap, hT]; exact hcell) hv (by rw [vt_vm]; exact ⟨y1, hy1⟩) (by rw [vt_vm]; exact ⟨y3, hy3⟩)]
  rw [vt_vm, if_neg (by rw [X.warmed.alike.assignable, hnas]; decide)]
  rw [vt_go (T := ((T.setTop (F0 m pc ls rest)).pushFrame (.throwing x)).setVm (T.vm.noted m.cls ye.catchType (.cls c6))) (f := F0 m pc ls rest) (k := c4) hx h0 (hW1.classLinks hl5) (by show ((T.setTop (F0 m pc ls rest)).pushFrame (.throwing x)).heap[x]? = _; rw [Stand.throwing_heap, hT]; exact hcell) hv ⟨w1, hw1⟩ ⟨w2, hw2⟩]
  rw [if_pos (by show (T.vm.noted m.cls ye.catchType (.cls c6)).assignable _ _ = true; rw [hW1.alike.assignable]; exact hasg)]
  rfl
end VT
