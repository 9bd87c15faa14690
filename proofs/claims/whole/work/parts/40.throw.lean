/-! Methods that may throw (no traces are kept at this launch): my own rows over the library's Stand. -/
/-- the words ws hold in every state whose tables are warmer and whose heap agrees with U's outside A -/
def vt_Z (ws : List Cond) (A : Nat → Prop) (U : State) : Prop := ∀ V : State, U.WarmedH V.vm → (∀ a : Nat, a < U.heap.size → ¬ A a → V.heap[a]? = U.heap[a]?) → ∀ w ∈ ws, ∀ av : Array Value, w.before av V = true
theorem vt_Z.sub {ws : List Cond} {A A' : Nat → Prop} {s U : State} (h : vt_Z ws A s) (hW : s.WarmedH U.vm) (hsz : s.heap.size ≤ U.heap.size) (hk : ∀ a : Nat, a < s.heap.size → ¬ A a → U.heap[a]? = s.heap[a]?) (hA : ∀ q, A' q → A q) : vt_Z ws A' U :=
  fun V hV hh w hw av => h V (State.WarmedH.trans hW hV) (fun a ha hn => (hh a (Nat.lt_of_lt_of_le ha hsz) (fun z => hn (hA a z))).trans (hk a ha hn)) w hw av
/-- how a method ends that may throw -/
def vt_Q (Qc : Array Value → State → Outcome → State → Prop) (XC : String → State → Prop) (A : Nat → Prop) (mc ms : Nat) : Array Value → State → Outcome → State → Prop := fun a st o t =>
  (Qc a st o t ∧ ∃ L, FrameEnd st o t L mc ms ∧ ∀ q ∈ L, A q.base) ∨
  ∃ (x : Addr) (E : String) (ce : Cell) (L : List Loc), o = .threw x ∧ XC E t ∧ (t.heap[x]? = some ce ∧ ce.vm = .none ∧ st.vm.findClass E = some ce.cls) ∧ va_F A st t ∧ st.WarmedH t.vm ∧ st.sameButNew ({ t with vm := st.vm } : State) L mc ms ∧ ∀ q ∈ L, A q.base
def vt_Met (l : Launch) (y : MethodName) (ws : List Cond) (rm : Room) (Pc : Array Value → State → Prop) (Qc : Array Value → State → Outcome → State → Prop) (XC : String → State → Prop) (A : Nat → Prop) (mc ms : Nat) : Prop :=
  MetFree l y (headSpec ws rm) Pc (fun _ _ _ _ _ => True) (vt_Q Qc XC A mc ms)
def vt_E (below : List Frame) (Qc : Array Value → State → Outcome → State → Prop) (XC : String → State → Prop) (A : Nat → Prop) (a : Array Value) (s : State) (mc ms : Nat) : State → Prop := fun t =>
  ∃ o, t.status = .running ∧ Ended t below o ∧ vt_Q Qc XC A mc ms a s o t
def vt_up : List String := ["java/lang/RuntimeException", "java/lang/Exception"]
section VT
variable {p : Program} {l : Launch} {e : Env} {R : Room} {s : State} {m : MethodId} {args : Array Value} {below : List Frame} {meth : Method} {c : Code} {H : Heap} {locs : List Loc} {cells slots : Nat}
theorem vt_ofW {y : MethodName} {ws ws' : List Cond} {rm : Room} {Pc : Array Value → State → Prop} {Qc : Array Value → State → Outcome → State → Prop} {XC : String → State → Prop} {A : Nat → Prop} {mc ms : Nat} {cc : ByteArray} {maxL : Nat} {ret : Option FieldType}
    (hy : plainName y.cls = true) (hw : ws = Cond.code y cc maxL ret :: ws')
    (body : ∀ p e s m args below meth c s₁, BodyLoose p l y (headSpec ws rm) cc maxL ret e s m args below meth c s₁ → c.maxLocals = maxL → c.exceptionTable.isEmpty = true → Pc args s →
      W p l e (headSpec ws rm).room s m args below meth c s.heap [] 0 0 (vt_E below Qc XC A args s mc ms) (entryFrame m args maxL)) : vt_Met l y ws rm Pc Qc XC A mc ms := by
  refine MetFree.of_bodyS (code := cc) (maxLocals := maxL) (ret := ret) hy ?_ ?_
  · intro args s m h hn
    obtain ⟨meth, c, h1, h2, h3, h4, h5, h6, -, -⟩ := Cond.code_spec hn (atoms_spec (ws := ws) h _ (by rw [hw]; exact List.mem_cons_self))
    exact ⟨meth, c, h1, h2, h3, h4, h5, h6⟩
  · intro p e s m args below meth c s₁ B hml hP _
    have hx : c.exceptionTable.isEmpty = true := by
      obtain ⟨meth', c', h1, h2, -, -, -, -, h7, -⟩ := Cond.code_spec B.named (atoms_spec (ws := ws) B.pre _ (by rw [hw]; exact List.mem_cons_self))
      have X := Stand.of_body B
      cases Option.some.inj (X.method.symm.trans h1)
      cases Option.some.inj (X.code.symm.trans h2)
      exact h7
    have hh0 : s₁.heap = s.heap := by rw [B.state]; rfl
    obtain ⟨t, a1, o, b1, b2, b3⟩ := body p e s m args below meth c s₁ B hml hx hP s₁ hh0 (Stand.of_body B)
    exact ⟨t, o, a1, b1, b2, b3⟩
theorem vt_ret {Qc : Array Value → State → Outcome → State → Prop} {XC : String → State → Prop} {A : Nat → Prop} {mc ms : Nat} {g : JFrame} (k : W p l e R s m args below meth c H locs cells slots (MQ below Qc args s mc ms A) g) : W p l e R s m args below meth c H locs cells slots (vt_E below Qc XC A args s mc ms) g := fun T hT X => by
  obtain ⟨t, h1, o, h2, h3, h4⟩ := k T hT X
  exact ⟨t, h1, o, h2, h3, Or.inl h4⟩
/-- the same walk, seen from the state where it stands -/
theorem vt_anew {T : State} (X : Stand p l e R s m args below meth c T locs cells slots) {R' : Room} (hf : R'.frames ≤ R.frames) (hl : R'.locals ≤ R.locals) (hc : cells + R'.cells ≤ R.cells) (hs : slots + R'.slots ≤ R.slots) :
    Stand p l e R' ({ s with heap := T.heap, slotsUsed := T.slotsUsed } : State) m args below meth c T [] 0 0 := by
  refine ⟨X.admits, X.cas, X.clock, X.frames, ?_, X.hears, X.method, X.code, X.here, X.tail, X.warmed, X.limits, X.bytes, ?_⟩
  · have h := X.room
    have h1 := X.heapSize
    have h2 := X.used
    have h3 := X.book
    simp only [State.hasRoom, Bool.and_eq_true, decide_eq_true_eq] at h ⊢
    obtain ⟨⟨⟨⟨a1, a2, a3, a4, a5, a6⟩, a7⟩, a8⟩, a9⟩ := h
    refine ⟨⟨⟨⟨?_, ?_, ?_, ?_, ?_, a6⟩, ?_⟩, ?_⟩, h3⟩
    · exact Nat.le_trans (Nat.add_le_add_right (Nat.add_le_add_left hl _) _) a1
    · exact Nat.le_trans (Nat.add_le_add_left hf _) a2
    · exact Nat.le_trans (Nat.add_le_add_left hf _) a3
    · exact Nat.le_trans (Nat.add_le_add_left hl _) a4
    · exact Nat.le_trans (Nat.add_le_add_left hl _) a5
    · show T.heap.size + R'.cells ≤ _
      omega
    · show T.slotsUsed + R'.slots ≤ _
      omega
  · have hd : T.heap.toList.drop T.heap.size = [] := List.drop_eq_nil_of_le (by rw [Array.length_toList]; exact Nat.le_refl _)
    refine ⟨X.same.1, Nat.le_refl _, Nat.le_refl _, ?_, ?_, fun a c' h => ⟨c', h, rfl, rfl, fun _ _ => rfl⟩⟩
    · show T.slotsUsed = T.slotsUsed + ((T.heap.toList.drop T.heap.size).map (·.slots.size)).sum
      rw [hd]; rfl
    · show ((T.heap.toList.drop T.heap.size).map (·.slots.size)).sum ≤ 0
      rw [hd]; exact Nat.le_refl _
end VT
