/-! what the Statement gives at the law's entry -/
def vt_hp : List Cond := [.isRef (.static Bundle.tN "UNASSIGNED_STACK" Bundle.steD), .isRef (.static Bundle.tN "SUPPRESSED_SENTINEL" Bundle.listD), .laysStatic Bundle.tN "UNASSIGNED_STACK" Bundle.steD, .laysStatic Bundle.tN "SUPPRESSED_SENTINEL" Bundle.listD]
def vt_sr : List Cond := [Cond.stringRef R_Lp 55 "a sample was told", Cond.stringRef R_Lp 82 "it is not this sample's turn", Cond.stringRef R_Lp 86 "no sample is this number", Cond.stringRef R_Lp 153 "nothing folds to this number", Cond.stringRef R_Lp 155 "it is no sample of a run", Cond.stringRef R_Lp 160 "no error folds to this number here", Cond.stringRef R_Lp 200 "no error is this number", Cond.stringRef R_Lp 183 "there is no such neighbour", Cond.stringRef R_Lp 186 "there is no such side", Cond.stringRef R_Lp 191 "there is no such context", Cond.stringRef R_Lp 193 "a context has no such number", Cond.stringRef R_Lp 208 "there is no such setting"]
set_option maxRecDepth 20000 in
theorem vt_ws_tab : ∀ w ∈ vt_ws, w ∈ vt_sr ∨ (w.keepsFace = true ∧ (w.onTables = true ∨ w ∈ vt_hp)) := by decide +kernel
set_option maxRecDepth 20000 in
theorem vt_ws_in : ∀ w ∈ vt_ws, (w.onTables = true ∨ w ∈ vt_sr) → w ∈ lw_tbl := by decide +kernel
set_option maxRecDepth 20000 in
theorem vq_Ew_in : ∀ w ∈ vq_Ew, w ∈ lw_tbl := by decide +kernel
set_option maxRecDepth 20000 in
theorem vt_lays_in : Cond.laysStatic Bundle.tN "UNASSIGNED_STACK" Bundle.steD ∈ lw_tbl ∧ Cond.laysStatic Bundle.tN "SUPPRESSED_SENTINEL" Bundle.listD ∈ lw_tbl := by decide +kernel
theorem vt_ff {C n d : String} {s V : State} (hvm : V.vm = s.vm) : V.fieldFound? C n d = s.fieldFound? C n d := by
  unfold State.fieldFound?; rw [hvm]
theorem vt_isRef {C n d : String} {args av : Array Value} {s V : State} (hvm : V.vm = s.vm) (hh : ∀ a : Nat, a < s.heap.size → V.heap[a]? = s.heap[a]?) (h : (Cond.isRef (.static C n d)).before args s = true) : (Cond.isRef (.static C n d)).before av V = true := by
  have hf : V.fieldNamed? C n d true = s.fieldNamed? C n d true := by
    unfold State.fieldNamed?; rw [vt_ff hvm]
  simp only [Cond.before, Cond.holds, Cond.value, Term.eval] at h ⊢
  rw [hf]
  cases hq : s.fieldNamed? C n d true with
  | none => rw [hq] at h; exact h
  | some q =>
    rw [hq] at h
    cases hs : q.2.1.statics with
    | none => simp [hs] at h
    | some a =>
      cases hc : s.heap[a]? with
      | none => simp [hs, hc] at h
      | some cell =>
        have ha : a < s.heap.size := (Array.getElem?_eq_some_iff.mp hc).1
        have hv : V.heap[a]? = some cell := (hh a ha).trans hc
        simp [hs, hc] at h
        simp [hs, hv]
        exact h
theorem vt_laysS {C n d : String} {args av : Array Value} {s V : State} (hvm : V.vm = s.vm) (hh : ∀ a : Nat, a < s.heap.size → V.heap[a]? = s.heap[a]?) (h : (Cond.laysStatic C n d).before args s = true) : (Cond.laysStatic C n d).before av V = true := by
  simp only [Cond.before, Cond.holds, Cond.value] at h ⊢
  rw [vt_ff hvm, hvm]
  cases hcc : s.vm.findClass C with
  | none => rw [hcc] at h; simp at h
  | some c =>
    rw [hcc] at h
    cases hq : s.fieldFound? C n d with
    | none => rw [hq] at h; simp at h
    | some q =>
      obtain ⟨c', k, i, f⟩ := q
      rw [hq] at h
      dsimp only at h ⊢
      cases hs : k.statics with
      | none => rw [hs] at h; simp at h
      | some a =>
        rw [hs] at h
        cases hc : s.heap[a]? with
        | none => simp [hc] at h
        | some cell =>
          have ha : a < s.heap.size := (Array.getElem?_eq_some_iff.mp hc).1
          have hv : V.heap[a]? = some cell := (hh a ha).trans hc
          simp only [Option.bind_some, hc] at h
          simp only [Option.bind_some, hv]
          exact h
theorem vt_Zof {s : State} {args : Array Value} (hts : ∀ w ∈ lw_tbl, w.before args s = true) (h1 : (Cond.isRef (.static Bundle.tN "UNASSIGNED_STACK" Bundle.steD)).before args s = true) (h2 : (Cond.isRef (.static Bundle.tN "SUPPRESSED_SENTINEL" Bundle.listD)).before args s = true) (hlp : ∃ k, s.vm.findClass R_Lp = some k) :
    vt_Z vt_ws (fun q : Nat => s.heap.size ≤ q) s := by
  intro V hW hh w hw av
  have hh' : ∀ a : Nat, a < s.heap.size → (V.setVm s.vm).heap[a]? = s.heap[a]? := fun a ha => hh a ha (Nat.not_le.mpr ha)
  rcases vt_ws_tab w hw with hs | ⟨hk, ht⟩
  · have hb := hts w (vt_ws_in w hw (Or.inr hs))
    obtain ⟨k, hlp⟩ := hlp
    have key : ∀ (i : Nat) (tx : String), w = Cond.stringRef R_Lp i tx → w.before av V = true := fun i tx e => by
      subst e
      obtain ⟨_, _, _, a, _, _, _, _, _, hev⟩ := Cond.stringRef_spec hlp hb
      exact (vk_R.warm hW (vk_R.of (A := args) hb hev)).1
    simp only [vt_sr, List.mem_cons, List.not_mem_nil, or_false] at hs
    rcases hs with e | e | e | e | e | e | e | e | e | e | e | e <;> exact key _ _ e
  · have h0 : w.before av (V.setVm s.vm) = true := by
      rcases ht with ht | ht
      · exact va_tabs ht (rfl : s.vm = (V.setVm s.vm).vm) (hts w (vt_ws_in w hw (Or.inl ht)))
      · simp only [vt_hp, List.mem_cons, List.not_mem_nil, or_false] at ht
        rcases ht with e | e | e | e
        · rw [e]; exact vt_isRef (s := s) rfl hh' h1
        · rw [e]; exact vt_isRef (s := s) rfl hh' h2
        · rw [e]; exact vt_laysS (s := s) rfl hh' (hts _ vt_lays_in.1)
        · rw [e]; exact vt_laysS (s := s) rfl hh' (hts _ vt_lays_in.2)
    have hW' : (V.setVm s.vm).WarmedH V.vm := hW
    exact Cond.before_shiftedFace (State.Shifted.of_warmed hW') w hk h0
