/-! THE CLAIM OUT OF ONE WALK OF THE LAW'S BODY. Your part is whole_start (and what it stands on); all else here is the same for every law, but numbers. -/
def R_law : String := "LinePredictLaw"
def lw_P (b : Addr) (xs : List Int32) (args : Array Value) (s : State) : Prop := args = #[.ref b] ∧ s.IntsAt b xs ∧ xs.length ≤ 2051 ∧ (Jvm.Cond.and given_1 narrow_1).before args s = true
def lw_Q (_ : Array Value) (s : State) (o : Outcome) (t : State) : Prop := o = .returned (some (.int 1)) ∧ Framed s o t [] 601024 7293000
def lw_Z (below : List Frame) (a : Array Value) (s : State) : State → Prop := fun t => ∃ o, t.status = .running ∧ Ended t below o ∧ lw_Q a s o t
/-- the law's own end, with 1 on the stack, nothing written that was there before, its room as the claim has it -/
theorem lw_ret {p : Program} {l : Launch} {e : Env} {s : State} {m : MethodId} {below : List Frame} {meth : Method} {c : Code} {b : Nat} (hx : p.tables.exec = Jvm.exec) (hb : c.code = code) (hr : meth.sig.returnType = ret) (hlocks : meth.locks = false) {pc : Nat} {H : Heap} {ls : Array Slot} (hdg : decode code pc = .ok (.ireturn, 1)) : W p l e room_1 s m #[Value.ref b] below meth c H [] 601024 7293000 (lw_Z below #[Value.ref b] s) (F0 m pc ls [.int 1]) := by
  intro T hT X
  obtain ⟨fs, hret, hrun, hended, hW, hframe⟩ := X.leave (v := some (.int 1)) (hlocks := hlocks) (fun h => by rw [hr] at h; cases h)
  have hmeth' : T.vm.method? m = some meth := X.method'
  refine ⟨T.setFrames fs, ?_, .returned (some (.int 1)), hrun, hended, rfl, ⟨_, rfl⟩, hW, hframe⟩
  jvm_step X.here [X.here.top, hx, hb, hdg, hmeth', hr, ret, narrow_b1]
  (try refine ⟨rfl, ?_⟩); (try refine ⟨rfl, ?_⟩)
  first | (intro acts; rw [hret _ acts rfl rfl rfl]) | rw [hret _ _ rfl rfl rfl]
  exact Steps.refl _
/-- what holds at the law's entry: the machine, the code, the tables' words (any of lw_tbl by 'hts w (by decide +kernel)'), the script of L ints xs at the cell b, what the Statement gives of the start (any of its parts by flat_of_before) -/
def lw_At (p : Program) (s : State) (m : MethodId) (meth : Method) (c : Code) (b L : Nat) (xs : Nat → Int32) : Prop :=
  p.tables.exec = Jvm.exec ∧ c.code = code ∧ meth.sig.returnType = ret ∧ c.maxLocals = 7 ∧ s.vm.findClass R_law = some m.cls ∧ (∀ w ∈ lw_tbl, w.before #[Value.ref b] s = true) ∧ va_X b L xs s s.heap ∧ b < s.heap.size ∧ meth.locks = false ∧ (Jvm.Cond.and given_1 narrow_1).before #[Value.ref b] s = true
theorem lw_ix {i j L : Nat} {x4 : Int32} (ex4 : x4 = nI i) (hi : i + 4 ≤ L) (hL : L ≤ 2051) (hj : j < 4) : vp_in (nI (i + j)) L := vp_in_nI (by omega) (by omega)
theorem lw_ix0 {i L : Nat} {x4 : Int32} (ex4 : x4 = nI i) (hi : i + 4 ≤ L) (hL : L ≤ 2051) : vp_in x4 L := by rw [ex4]; exact vp_in_nI (by omega) (by omega)
theorem lw_ix1 {i L : Nat} {x4 : Int32} (ex4 : x4 = nI i) (hi : i + 4 ≤ L) (hL : L ≤ 2051) : vp_in (x4 + 1) L := by rw [ex4, show nI i + 1 = nI (i + 1) from nI_add i 1]; exact vp_in_nI (by omega) (by omega)
theorem lw_ix2 {i L : Nat} {x4 : Int32} (ex4 : x4 = nI i) (hi : i + 4 ≤ L) (hL : L ≤ 2051) : vp_in (x4 + 2) L := by rw [ex4, show nI i + 2 = nI (i + 2) from nI_add i 2]; exact vp_in_nI (by omega) (by omega)
theorem lw_ix3 {i L : Nat} {x4 : Int32} (ex4 : x4 = nI i) (hi : i + 4 ≤ L) (hL : L ≤ 2051) : vp_in (x4 + 3) L := by rw [ex4, show nI i + 3 = nI (i + 3) from nI_add i 3]; exact vp_in_nI (by omega) (by omega)
theorem lw_cmp0 {x y : Int64} (h : x = y) : lg_cmp x y = 0 := by
  subst h
  have h1 : ¬ x < x := Int64.lt_irrefl
  simp [lg_cmp, h1]
section VQ
variable {s : State} {H : Heap} {locs : List Loc} {A : Nat → Prop} {D : va_G} {ws wc : va_W} {tys tyc : List (ClassId × FieldType)} {sa : Nat → Nat}
theorem vq_pSW {As : List Value} (hE : vq_E sa s) (hZ : vt_Z vt_ws A s) (hnc : va_Nc "java/lang/IllegalArgumentException" "java/lang/IllegalStateException" s) (hK : va_K D vwCl tys s) (hP : va_P D vwCl ws H) (hD : va_D A ws) (hS : va_S A s.heap H locs) (hA : ∀ q, s.heap.size ≤ q → A q) (isC tC : List Nat) (hC : isC.map (fun i => ws[i]?) = wc.map some) (hn : va_nd isC = true) (ht : tC.filterMap (fun i => tys[i]?) = tyc) :
    PreS s H (va_Pc As (fun U => vq_pre D sa wc tyc H.size U ∧ vt_Z vt_ws (va_A wc H.size) U ∧ va_Nc "java/lang/IllegalArgumentException" "java/lang/IllegalStateException" U)) As := by
  have hF := va_free (wc := wc) hD hS hA isC hC
  have h0 : PreS s H (va_Pc As (vq_pre D sa wc tyc H.size)) As := vq_pS hE hK hP hD isC tC hC hn ht
  refine ⟨fun a U g mk q => ?_, fun U hU hW => ?_⟩
  · have q1 := h0.1 a U g mk ⟨q.1, q.2.1⟩
    exact ⟨q1.1, q1.2, fun V hV hh => q.2.2.1 V hV hh, va_Nc.moved (u := U) (U := U.calling g mk a) (Vm.Alike.refl U.vm) q.2.2.2⟩
  · have q1 := h0.2 U hU hW
    exact ⟨q1.1, q1.2, hZ.sub hW (by rw [hU]; exact hS.1) (fun a ha hna => by rw [hU]; exact hS.2.1 a ha hna) hF, hnc.moved hW.alike⟩
end VQ
