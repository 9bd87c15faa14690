section VT
variable {p : Program} {l : Launch} {e : Env} {R : Room} {s : State} {m : MethodId} {args : Array Value} {below : List Frame} {meth : Method} {c : Code} {H : Heap} {locs : List Loc} {cells slots : Nat}
set_option maxHeartbeats 4000000 in
/-- throw new E("..."): from the 'new' to the method's end -/
theorem vt_throw {cc : ByteArray} {pc : Nat} {ls : Array Slot} {rest : List Value} {Qc : Array Value → State → Outcome → State → Prop} {XC : String → State → Prop} {A : Nat → Prop} {mc ms : Nat} {wz : List Cond} {own cls text : String} {ik is ic : Nat}
    (hexec : p.tables.exec = Jvm.exec) (hb : c.code = cc) (hl : l.stackTraces = false) (hown : s.vm.findClass own = some m.cls) (hZ : vt_Z wz A s)
    (hin : ∀ w ∈ Cond.classLink own ik cls :: Cond.initialized cls :: Cond.stringRef own is text :: Bundle.ownAtoms own ic cls vt_up, w ∈ wz) (hfit : Bundle.fit cls = true)
    (hS : va_S A s.heap H locs) (hsize : ls.size = c.maxLocals)
    (d0 : decode cc pc = .ok (.new ik, 3)) (d3 : decode cc (pc + 3) = .ok (.dup, 1)) (d4 : decode cc (pc + 4) = .ok (.ldc is, 2)) (d6 : decode cc (pc + 6) = .ok (.invokespecial ic, 3)) (d9 : decode cc (pc + 9) = .ok (.athrow, 1))
    (hnx : c.exceptionTable.isEmpty = true) (hRf : 5 < R.frames) (hRl : (rest.map fun v => v.category).sum + 82 ≤ R.locals) (hRc : cells + 1 ≤ R.cells) (hRs : slots + 6 ≤ R.slots) (hlocks : meth.locks = false)
    (hx : ∀ t : State, s.vm.Alike t.vm → H.size ≤ t.heap.size → (∀ q : Nat, q < H.size → t.heap[q]? = H[q]?) → XC cls t) (hmc : cells + 1 ≤ mc) (hms : slots + 6 ≤ ms) :
    W p l e R s m args below meth c H locs cells slots (vt_E below Qc XC A args s mc ms) (F0 m pc ls rest) := by
  intro T hT X
  have htr : e.platform.stackTraces = false := (show e.platform.stackTraces = l.stackTraces by rw [X.admits.platform]).trans hl
  have Y := vt_anew X (R' := { frames := R.frames, locals := R.locals, cells := 1, slots := 6 }) (Nat.le_refl _) (Nat.le_refl _) hRc hRs
  have hw : ∀ w ∈ wz, w.before args ({ s with heap := T.heap, slotsUsed := T.slotsUsed } : State) = true := fun w h =>
    hZ ({ s with heap := T.heap, slotsUsed := T.slotsUsed } : State) (State.WarmedH.refl s) (fun a ha hn => by show T.heap[a]? = _; rw [hT]; exact hS.2.1 a ha hn) w h args
  have hwi : ∀ w ∈ Bundle.ownAtoms own ic cls vt_up, w.before args ({ s with heap := T.heap, slotsUsed := T.slotsUsed } : State) = true := fun w h => hw w (hin w (List.mem_cons_of_mem _ (List.mem_cons_of_mem _ (List.mem_cons_of_mem _ h))))
  obtain ⟨vm₁, cX, kX, hfX, hkX, -, -, X₁, st1⟩ := Y.newCold hexec (own := own) (C := cls) (index := ik) (n := 6) hown (hw _ (hin _ List.mem_cons_self)) (hwi (.instantiable cls 6) (by simp [Bundle.ownAtoms])) (hw _ (hin _ (List.mem_cons_of_mem _ List.mem_cons_self)))
    (g := F0 m pc ls rest) rfl (by rw [hb]; exact d0) (Nat.le_refl _) (Nat.le_refl _)
  have hconst := hw _ (hin _ (List.mem_cons_of_mem _ (List.mem_cons_of_mem _ List.mem_cons_self)))
  obtain ⟨-, -, -, sa, -, -, -, -, -, hev⟩ := Cond.stringRef_spec (s := ({ s with heap := T.heap, slotsUsed := T.slotsUsed } : State)) hown hconst
  generalize hT1 : (T.setVm vm₁).pushCell { cls := cX, slots := kX.instanceTypes.map defaultValue, vm := .none } = T₁ at X₁ st1
  have hcellA : T₁.heap[T.heap.size]? = some (freshCell cX kX) := by rw [← hT1]; exact State.heap_pushCell_size _ _
  obtain ⟨U, hsteps, hrun, hend, hW, hsame, ce, hce, K⟩ := X₁.ctorThrowS hexec htr (own := own) (cls := cls) (names := vt_up) (ic := ic) hown hfit (by decide +kernel) hwi (fun y hy => by cases hy) hfX hkX hcellA (Nat.le_refl _) (msg := .ref sa) rfl
    (g := F0 m (pc + 6) ls (.ref sa :: .ref T.heap.size :: .ref T.heap.size :: rest)) rfl hsize rfl rfl (rest := rest) rfl (by rw [hb]; exact d6) (by rw [hb]; exact d9)
    (covers_of_empty hnx _) hRf (by
      have h0 : (F0 m (pc + 6) ls (.ref sa :: .ref T.heap.size :: .ref T.heap.size :: rest)).monitorRoom = 0 := rfl
      rw [h0]
      simp only [List.map_cons, List.sum_cons, vt_up, List.length_cons, List.length_nil]
      have h1 : (Value.ref T.heap.size).category = 1 := rfl
      rw [h1]
      show 2 * 0 + (1 + _) + (13 * (2 + 1) + 42) ≤ R.locals
      omega) hlocks
  have hsz : T.heap.size ≤ U.heap.size := hsame.2.1
  have hold : ∀ q : Nat, q < T.heap.size → U.heap[q]? = T.heap[q]? := fun q hq => by
    obtain ⟨cq, hcq⟩ : ∃ cq, T.heap[q]? = some cq := ⟨T.heap[q], Array.getElem?_eq_getElem hq⟩
    rw [hcq]
    exact State.sameButNew.old_cell (s := ({ s with heap := T.heap, slotsUsed := T.slotsUsed } : State)) hsame hcq
  refine ⟨U, ?_, .threw T.heap.size, hrun, hend, Or.inr ⟨T.heap.size, cls, ce, locs, rfl, hx U hW.alike (by rw [← hT]; exact hsz) (fun q hq => by rw [← hT] at hq ⊢; exact hold q hq), ⟨hce, K.vm, K.cls⟩, ?_, hW, ?_, hS.2.2⟩⟩
  · refine st1 _ ?_
    show Steps p.tables e below (T₁.setTop (F0 m (pc + 3) ls (.ref T.heap.size :: rest))) U
    jvm_step X₁.here [X₁.here.top, hexec, hb, d3, Value.category]
    exact X₁.ldcString hexec (own := own) (text := text) (index := is) (a := sa) hown hconst hev (g := F0 m (pc + 4) ls (.ref T.heap.size :: .ref T.heap.size :: rest)) rfl (by rw [hb]; exact d4) _ hsteps
  · refine ⟨Nat.le_trans hS.1 (by rw [← hT]; exact hsz), fun q h1 h2 => ?_⟩
    rw [hold q (Nat.lt_of_lt_of_le h1 (by rw [hT]; exact hS.1)), hT]
    exact hS.2.1 q h1 h2
  · have h2 : (T.setVm s.vm).sameButNew ({ U with vm := s.vm } : State) [] 1 6 := by
      refine ⟨?_, hsame.2.1, hsame.2.2.1, hsame.2.2.2.1, hsame.2.2.2.2.1, hsame.2.2.2.2.2⟩
      have h6 : ∀ F : List Frame, ({ (T.setVm s.vm).setFrames F with heap := U.heap, slotsUsed := U.slotsUsed } : State) = { s.setFrames F with heap := U.heap, slotsUsed := U.slotsUsed } := fun F => by
        have h7 : ({ (T.setVm s.vm).setFrames F with heap := U.heap, slotsUsed := U.slotsUsed } : State) = { ({ s.setFrames (T.setVm s.vm).frames with heap := T.heap, slotsUsed := T.slotsUsed } : State).setFrames F with heap := U.heap, slotsUsed := U.slotsUsed } := congrArg (fun z : State => ({ z.setFrames F with heap := U.heap, slotsUsed := U.slotsUsed } : State)) X.same.1
        rw [h7]
        show ({ (s.setFrames (T.setVm s.vm).frames).setFrames F with heap := U.heap, slotsUsed := U.slotsUsed } : State) = _
        rw [State.setFrames_setFrames]
      exact hsame.1.trans (h6 _).symm
    have h5 := X.same.trans h2
    rw [List.append_nil] at h5
    exact h5.mono hmc hms
end VT
