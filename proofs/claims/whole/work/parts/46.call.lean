/-! A call of a method that may throw, and its catching. -/
section VT
variable {p : Program} {l : Launch} {e : Env} {R : Room} {s : State} {m : MethodId} {args : Array Value} {below : List Frame} {meth : Method} {c : Code} {H : Heap} {locs : List Loc} {cells slots : Nat} {Q : State → Prop}
/-- the walk with x being thrown over the frame g -/
def vt_W (p : Program) (l : Launch) (e : Env) (R : Room) (s : State) (m : MethodId) (args : Array Value) (below : List Frame) (meth : Method) (c : Code) (H : Heap) (locs : List Loc) (cells slots : Nat) (Q : State → Prop) (g : JFrame) (x : Addr) : Prop :=
  ∀ T : State, T.heap = H → Stand p l e R s m args below meth c T locs cells slots → ∃ t, Steps p.tables e below ((T.setTop g).pushFrame (.throwing x)) t ∧ Q t
set_option maxHeartbeats 4000000 in
theorem vt_call {S SX : Type} {post : Int32 → S → Prop} {w1 : S → va_W} {px : String → SX → Prop} {wx : SX → va_W} {A : Nat → Prop} {D : va_G} {ws wc wr : va_W} {tys tyc : List (ClassId × FieldType)} {sa : Nat → Nat} {wz Ts wsC : List Cond} {cc bytes : ByteArray} {own C : String} {index n nL mc ms maxL pc b : Nat} {y : MethodName} {ret : Option FieldType} {rm : Room} {As st0 rest : List Value} {ls : Array Slot}
    (Sx : CallFix p m c cc nL s args Ts own)
    (hM : vt_Met l y wsC rm (va_Pc (.ref b :: As) (fun U => vq_pre D sa wc tyc H.size U ∧ vt_Z wz (va_A wc H.size) U)) (va_Qi post (vq_B D (va_A wc H.size) tyc w1) (va_A wc H.size)) (fun E t => ∃ u : SX, px E u ∧ vq_B D (va_A wc H.size) tyc wx u t) (va_A wc H.size) mc ms)
    (cw : CallW R s args own C index y bytes maxL ret wsC rm mc ms n) (hE : vq_E sa s) (hZ : vt_Z wz A s) (hK : va_K D vwCl tys s) (hP : va_P D vwCl ws H) (hD : va_D A ws) (hS : va_S A s.heap H locs) (hA : ∀ q, s.heap.size ≤ q → A q)
    (isC isR tC : List Nat) (hC : isC.map (fun i => ws[i]?) = wc.map some) (hnC : va_nd isC = true) (htc : tC.filterMap (fun i => tys[i]?) = tyc) (hR : isR.map (fun i => ws[i]?) = wr.map some) (hnR : va_nd isR = true) (hdis : ∀ i ∈ isR, i ∉ isC)
    (ci q0 : Nat) {q : vw_C} {fs : List Value} (hc : vwCl[ci]? = some q) (he : ws[q0]? = some (b, .inr (ci, fs))) (hq : q.1 = C)
    (hn : As.length = n) (hsz : ls.size = nL) (hst : st0 = As.reverse ++ .ref b :: rest) (hW : (rest.map fun v => v.category).sum ≤ 8) (hdg : decode cc pc = .ok (.invokevirtual index, 3)) (hf : cells + mc ≤ R.cells ∧ slots + ms ≤ R.slots)
    (kx : ∀ (E : String) (u : SX) (x : Addr) (ce : Cell) (H1 : Heap) (locs1 : List Loc), px E u → va_P D vwCl (wr ++ wx u) H1 → va_D A (wr ++ wx u) → va_S A s.heap H1 locs1 → H1[x]? = some ce → ce.vm = .none → s.vm.findClass E = some ce.cls → vt_W p l e R s m args below meth c H1 locs1 (cells + mc) (slots + ms) Q (F0 m pc ls rest) x)
    (kk : ∀ (r : Int32) (u : S) (H1 : Heap) (locs1 : List Loc), post r u → va_P D vwCl (wr ++ w1 u) H1 → va_D A (wr ++ w1 u) → va_S A s.heap H1 locs1 → W p l e R s m args below meth c H1 locs1 (cells + mc) (slots + ms) Q (F0 m (pc + 3) ls (.int r :: rest))) :
    W p l e R s m args below meth c H locs cells slots Q (F0 m pc ls st0) := by
  have hF := va_free (wc := wc) hD hS hA isC hC
  have hPV : PreV s H C b (va_Pc (.ref b :: As) (vq_pre D sa wc tyc H.size)) As := vq_pV hE hK hP hD isC tC hC hnC htc ci q0 hc he hq
  intro T hT X
  obtain ⟨hexec, hb, hml, hown, -⟩ := Sx
  obtain ⟨⟨hrc, hrs, hfr, hlo, hws, hcw, hcode, hini, hy, hlen, hlk⟩, hinst, hsel⟩ := cw
  obtain ⟨-, ⟨cellB, hcell, hobj, hcls⟩, hPc⟩ := hPV
  obtain ⟨mk, methM, hnamed, hmethM, hstM, habM⟩ := Cond.instanceMethod_spec hinst
  obtain ⟨methM', cM, hmethM', -, -, -, -, -, -, hsigM⟩ := Cond.code_spec hnamed hcode
  cases hmethM.symm.trans hmethM'
  obtain ⟨c2, r2, m2, q1, q2, q3, q4, kP, hkP, hkPi⟩ := Cond.selects_spec hsel
  cases hcls.symm.trans q1
  cases (State.methodFound?_of_named hnamed hy).symm.trans q2
  cases hnamed.symm.trans q3
  have hselP : selectMethod e.platform s.vm cellB.cls mk = .method mk := by rw [Launch.admits_selectMethod X.admits]; exact q4
  have hdg1 : decode c.code (F0 m pc ls st0).pc = .ok (.invokevirtual index, 3) := by rw [hb]; exact hdg
  obtain ⟨vm₁, X₁, hstep₁⟩ := X.invokevirtual hexec hown hlk hnamed hmethM hstM hkP hkPi hy (a := b) (cell := cellB) (by rw [hT]; exact hcell)
    (fun z h => by rw [h] at hobj; cases hobj) hselP hmethM habM hkP hkPi (g := F0 m pc ls st0) rfl (argsL := As) (rest := rest) (hn.trans (hlen _ hsigM)) hst hdg1
  have hn1 := X₁.named hnamed
  have h1 : (headSpec wsC rm).pre.before (Value.ref b :: As).toArray (T.setVm vm₁) = true := atoms_intro fun w hw => hws w hw _ _ X₁.warmed
  have h2 : (Cond.code y bytes maxL ret).before (Value.ref b :: As).toArray (T.setVm vm₁) = true := hws _ hcw _ _ X₁.warmed
  have h3 : (Cond.initialized y.cls).before (Value.ref b :: As).toArray (T.setVm vm₁) = true := word_at X₁.warmed (Or.inl (by first | rfl | simp [Cond.onTables, Cond.keeps, Cond.steady])) hini
  obtain ⟨methY, cY, hmY, hcY, -, hlY, -, -, -, -⟩ := Cond.code_spec hn1 h2
  obtain ⟨kY, hkY, -⟩ := className_of_methodNamed hn1
  have hinitY : kY.init = .initialized := Cond.initialized_spec (findClass_of_methodNamed hn1) hkY h3
  have hroom := X₁.room_calling (g := F0 m pc ls rest) (m' := mk) (args' := (Value.ref b :: As).toArray) (R' := (headSpec wsC rm).room) (hsz.trans hml.symm) hmY hcY hfr
    (by
      rw [hlY]
      have h0 : (F0 m pc ls rest).monitorRoom = 0 := rfl
      show 2 * (F0 m pc ls rest).monitorRoom + (rest.map fun v => v.category).sum + (maxL + 11) + rm.locals ≤ R.locals
      rw [h0]; omega)
    (by show cells + rm.cells ≤ R.cells; rw [hrc]; exact hf.1) (by show slots + rm.slots ≤ R.slots; rw [hrs]; exact hf.2)
  have happ : (headSpec wsC rm).appliesLoose y e.platform ((T.setVm vm₁).calling (F0 m pc ls rest) mk (Value.ref b :: As).toArray) = true :=
    Spec.appliesLoose_calling (g := F0 m pc ls rest) X₁.here (ig := .invokevirtual index) (len := 3) hdg1 hn1 hkY hinitY hroom h1
  have hpre : va_Pc (.ref b :: As) (fun U => vq_pre D sa wc tyc H.size U ∧ vt_Z wz (va_A wc H.size) U) (Value.ref b :: As).toArray ((T.setVm vm₁).calling (F0 m pc ls rest) mk (Value.ref b :: As).toArray) := by
    have h4 := vq_blind _ _ (F0 m pc ls rest) mk (hPc (T.setVm vm₁) hT X₁.warmed)
    refine ⟨h4.1, h4.2, ?_⟩
    refine hZ.sub (U := (T.setVm vm₁).calling (F0 m pc ls rest) mk (Value.ref b :: As).toArray) X₁.warmed ?_ ?_ hF
    · show s.heap.size ≤ T.heap.size
      rw [hT]; exact hS.1
    · intro a ha hna
      show T.heap[a]? = s.heap[a]?
      rw [hT]; exact hS.2.1 a ha hna
  obtain ⟨mid, hmid⟩ := X₁.here.above
  have hfr2 : ((T.setVm vm₁).setTop (F0 m pc ls rest)).frames = (.java (F0 m pc ls rest) :: mid) ++ below := by rw [State.frames_setTop' _ X₁.here.top, hmid]; rfl
  obtain ⟨o, s₂, hsteps, -, hend, hQ⟩ := Steps.callFree hM p X.admits X.cas X.clock (acts := []) hfr2 happ hpre trivial
  rw [State.frames_setTop' _ X₁.here.top] at hend
  obtain ⟨g₀, hg0⟩ := Option.isSome_iff_exists.mp X₁.here.top
  obtain ⟨fr, hfr3⟩ := State.topJava?_eq_some.mp hg0
  obtain ⟨tth, htth, -⟩ := State.frames_cons hfr3
  -- what the two ends share
  have key : ∀ L : List Loc, ((T.setVm vm₁).calling (F0 m pc ls rest) mk (Value.ref b :: As).toArray).WarmedH s₂.vm →
      ((T.setVm vm₁).calling (F0 m pc ls rest) mk (Value.ref b :: As).toArray).sameButNew ({ s₂ with vm := ((T.setVm vm₁).calling (F0 m pc ls rest) mk (Value.ref b :: As).toArray).vm } : State) L mc ms →
      Stand p l e R s m args below meth c (({ (T.setVm vm₁) with heap := s₂.heap, slotsUsed := s₂.slotsUsed } : State).setVm s₂.vm) (locs ++ L) (cells + mc) (slots + ms) ∧
      ∀ F : List Frame, s₂.frames = F → s₂ = (({ (T.setVm vm₁) with heap := s₂.heap, slotsUsed := s₂.slotsUsed } : State).setVm s₂.vm).setFrames F := by
    intro L hW2 hsm
    have hW' : (T.setVm vm₁).WarmedH s₂.vm := hW2
    obtain ⟨e2, z2, z3, z4, z5, z6⟩ := hsm
    refine ⟨X₁.moved ((X₁.here.setHeapUsed s₂.heap s₂.slotsUsed).setVm hW'.alike) X₁.tail rfl rfl hW' ⟨?_, z2, z3, z4, z5, z6⟩, fun F hF2 => ?_⟩
    · show ({ (T.setVm vm₁) with heap := s₂.heap, slotsUsed := s₂.slotsUsed } : State) = { (T.setVm vm₁).setFrames (T.setVm vm₁).frames with heap := s₂.heap, slotsUsed := s₂.slotsUsed }
      rw [State.setFrames_self htth]
    · have e3 : s₂ = ({ ((T.setVm vm₁).calling (F0 m pc ls rest) mk (Value.ref b :: As).toArray).setFrames s₂.frames with heap := s₂.heap, slotsUsed := s₂.slotsUsed } : State).setVm s₂.vm := by
        have h9 : s₂ = ({ s₂ with vm := ((T.setVm vm₁).calling (F0 m pc ls rest) mk (Value.ref b :: As).toArray).vm } : State).setVm s₂.vm := rfl
        rw [e2] at h9
        exact h9
      rw [State.calling_eq X₁.here.top, State.setFrames_setFrames, hF2] at e3
      exact e3
  rcases hQ with ⟨⟨⟨r, u, hv, hp, hB⟩, hz, hk⟩, L, ⟨⟨v, hv2⟩, hW2, hsm⟩, hL⟩ | ⟨x, E, ce, L, hv, ⟨u, hp, hB⟩, ⟨hce, hcv, hcl⟩, ⟨hz, hk⟩, hW2, hsm, hL⟩
  · subst hv
    obtain ⟨X', hs2⟩ := key L hW2 hsm
    obtain ⟨c₂, i₂, len₂, hc₂, hd₂, hf₂⟩ := hend
    have hcc : c₂ = c := by
      have h5 : s₂.code? m = (T.setVm vm₁).code? m := by
        have hWz : (T.setVm vm₁).WarmedH s₂.vm := hW2
        rw [State.code?_eq, State.code?_eq, hWz.alike.method?]
      exact Option.some.inj (hc₂.symm.trans (h5.trans X₁.here.code))
    subst hcc
    have hl3 : len₂ = 3 := by
      have h6 : decode c₂.code pc = .ok (.invokevirtual index, 3) := hdg1
      have h7 : decode c₂.code pc = .ok (i₂, len₂) := hd₂
      rw [h6] at h7; cases h7; rfl
    subst hl3
    obtain ⟨hP1, hK1, hD1⟩ := hB
    have hzH : H.size ≤ s₂.heap.size := by rw [← hT]; exact hz
    have hkH : ∀ q : Nat, q < H.size → ¬ va_A wc H.size q → s₂.heap[q]? = H[q]? := fun q hq1 hq2 => by rw [← hT] at hq1 ⊢; exact hk q hq1 hq2
    obtain ⟨hP2, hD2⟩ := va_join (wr := wr) (w1 := w1 u) hP hD isC isR hC hR hnR hdis hkH hF hP1 hD1
    obtain ⟨t2, a1, b1⟩ := kk r u s₂.heap (locs ++ L) hp hP2 hD2 ⟨Nat.le_trans hS.1 hzH, fun q hq1 hq2 => by rw [hkH q (Nat.lt_of_lt_of_le hq1 hS.1) (fun z => hq2 (hF q z))]; exact hS.2.1 q hq1 hq2, fun q hq1 => by
      rcases List.mem_append.mp hq1 with h | h
      · exact hS.2.2 q h
      · exact hF _ (hL q h)⟩ (({ (T.setVm vm₁) with heap := s₂.heap, slotsUsed := s₂.slotsUsed } : State).setVm s₂.vm) rfl X'
    refine ⟨t2, hstep₁ _ fun acts => ?_, b1⟩
    rw [doInvoke_state]
    refine hsteps.trans ?_
    have h8 := hs2 _ hf₂
    have h9 : (({ (T.setVm vm₁) with heap := s₂.heap, slotsUsed := s₂.slotsUsed } : State).setVm s₂.vm).frames = .java g₀ :: fr := hfr3
    rw [State.setTop_of_frames _ h9] at a1
    rw [hfr3] at h8
    rw [h8]
    exact a1
  · subst hv
    obtain ⟨X', hs2⟩ := key L hW2 hsm
    have hf₂ : s₂.frames = .throwing x :: .java (F0 m pc ls rest) :: (T.setVm vm₁).frames.tail := hend
    obtain ⟨hP1, hK1, hD1⟩ := hB
    have hzH : H.size ≤ s₂.heap.size := by rw [← hT]; exact hz
    have hkH : ∀ q : Nat, q < H.size → ¬ va_A wc H.size q → s₂.heap[q]? = H[q]? := fun q hq1 hq2 => by rw [← hT] at hq1 ⊢; exact hk q hq1 hq2
    obtain ⟨hP2, hD2⟩ := va_join (wr := wr) (w1 := wx u) hP hD isC isR hC hR hnR hdis hkH hF hP1 hD1
    have hclE : s.vm.findClass E = some ce.cls := by
      have h5 : (T.setVm vm₁).vm.findClass E = some ce.cls := hcl
      rw [← h5]; exact (X₁.warmed.alike.findClass E _).symm
    obtain ⟨t2, a1, b1⟩ := kx E u x ce s₂.heap (locs ++ L) hp hP2 hD2 ⟨Nat.le_trans hS.1 hzH, fun q hq1 hq2 => by rw [hkH q (Nat.lt_of_lt_of_le hq1 hS.1) (fun z => hq2 (hF q z))]; exact hS.2.1 q hq1 hq2, fun q hq1 => by
      rcases List.mem_append.mp hq1 with h | h
      · exact hS.2.2 q h
      · exact hF _ (hL q h)⟩ hce hcv hclE (({ (T.setVm vm₁) with heap := s₂.heap, slotsUsed := s₂.slotsUsed } : State).setVm s₂.vm) rfl X'
    refine ⟨t2, hstep₁ _ fun acts => ?_, b1⟩
    rw [doInvoke_state]
    refine hsteps.trans ?_
    have h8 := hs2 _ hf₂
    have h9 : (({ (T.setVm vm₁) with heap := s₂.heap, slotsUsed := s₂.slotsUsed } : State).setVm s₂.vm).frames = .java g₀ :: fr := hfr3
    rw [State.pushFrame, State.frames_setTop _ h9, State.setTop_of_frames _ h9, State.setFrames_setFrames] at a1
    rw [hfr3] at h8
    rw [h8]
    exact a1
end VT
