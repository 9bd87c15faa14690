def w_La_cell : List Cond := .code y_La_cell b_La_cell 2 (some .int) :: vU
def f_cell (L : Nat) (xs : Nat → Int32) (v : Int32) : Int32 := if nI L ≤ v then 0 else xs v.toNatClampNeg
set_option maxHeartbeats 4000000 in
set_option maxRecDepth 100000 in
theorem c_cell (l : Launch) (sz b L : Nat) (xs : Nat → Int32) (v : Int32) (hv : ¬ v < 0) (hL : L < 2 ^ 31) (hb0 : b < sz) : Met l y_La_cell w_La_cell ({ frames := 0, cells := 0, slots := 0, locals := 0 }) (va_Pc [.ref b, .int v] (fun U => U.heap.size = sz ∧ va_X b L xs U U.heap)) (va_Qi (fun (r0 : Int32) (_ : Unit) => f_cell L xs v = r0) (fun _ _ => True) (va_A [] sz)) 0 0 (va_A [] sz) := by
  refine Met.ofW (cc := b_La_cell) (maxL := 2) (ret := (some .int)) (by decide) rfl ?_
  intro p e s m args below meth c s₁ B hml hv9
  obtain ⟨rfl, hsz, hX⟩ := hv9
  have hx := B.exec
  have hb := B.bytes
  have hr := B.returns
  have hlocks := B.notSynchronized
  subst hsz
  have hS : va_S (va_A [] s.heap.size) s.heap s.heap [] := va_S.rf
  have hbA : ¬ va_A [] s.heap.size b := fun h => by
    rcases h with ⟨k, e9, h⟩ | h
    · simp at h
    · omega
  have hl := lv_entry ([.ref b, .int v]) (n := 2) (Nat.le_of_ble_eq_true rfl)
  rw [lg_entry_eq]
  generalize (lg_sl ([.ref b, .int v]) ++ List.replicate (2 - (lg_sl ([.ref b, .int v])).length) Slot.unset).toArray = ls at hl ⊢
  have hl : lv_has ls 2 [(0, .ref b), (1, .int v)] := hl
  refine lv_iload_n hx hb d_La_cell_0 rfl (lv_at hl 1 rfl) ?_
  refine lv_aload_n hx hb d_La_cell_1 rfl (lv_at hl 0 rfl) ?_
  refine va_slen hx hb hX hb0 hbA hS d_La_cell_2 ?_
  refine lv_icmp_ge (tgt := 12) hx hb d_La_cell_3 (by decide) (fun c_1 => ?_) (fun c_1 => ?_)
  · refine lv_iconst (v := 0) hx hb d_La_cell_12 (by decide) ?_
    exact W.iret (v := 0) hx hb hr (fun t ht hW => ⟨⟨0, (), rfl, by rw [f_cell]; exact if_pos c_1, trivial⟩, hS.F ht⟩) hS.2.2 d_La_cell_13
  · refine lv_aload_n hx hb d_La_cell_6 rfl (lv_at hl 0 rfl) ?_
    refine lv_iload_n hx hb d_La_cell_7 rfl (lv_at hl 1 rfl) ?_
    refine va_sld hx hb hX hb0 hbA hS (vq_in hL hv c_1) d_La_cell_8 ?_
    refine lv_goto (tgt := 13) hx hb d_La_cell_9 (by decide) ?_
    exact W.iret (v := xs v.toNatClampNeg) hx hb hr (fun t ht hW => ⟨⟨xs v.toNatClampNeg, (), rfl, by rw [f_cell]; exact if_neg c_1, trivial⟩, hS.F ht⟩) hS.2.2 d_La_cell_13
section VQ
variable {p : Program} {l : Launch} {e : Env} {R : Room} {s : State} {m : MethodId} {args : Array Value} {below : List Frame} {meth : Method} {c : Code} {H : Heap} {locs : List Loc} {cells slots : Nat} {Q : State → Prop} {A : Nat → Prop} {D : va_G} {ws : va_W} {cc : ByteArray} {nL : Nat} {Ts : List Cond}
/-- the law asks its script for a cell -/
theorem lw_cell {b L index pc : Nat} {xs : Nat → Int32} {v : Int32} {ls : Array Slot} {rest : List Value} (Sx : CallFix p m c cc nL s args Ts R_La) (hv : ¬ v < 0) (hL : L < 2 ^ 31) (hX : va_X b L xs s s.heap) (hbl : b < s.heap.size) (hbA : ¬ A b) (hG : GoodIn Ts (va_wsS R_La index y_La_cell w_La_cell)) (hR : 1 ≤ R.frames ∧ 21 ≤ R.locals)
    (hP : va_P D vwCl ws H) (hS : va_S A s.heap H locs) (hA : ∀ q, s.heap.size ≤ q → A q) (hsz : ls.size = nL) (hW : (rest.map fun v => v.category).sum ≤ 8) (hdg : decode cc pc = .ok (.invokestatic index, 3)) (hc : cells ≤ R.cells) (hs : slots ≤ R.slots)
    (kk : ∀ (H1 : Heap) (locs1 : List Loc), va_P D vwCl ws H1 → va_S A s.heap H1 locs1 → W p l e R s m args below meth c H1 locs1 cells slots Q (F0 m (pc + 3) ls (.int (f_cell L xs v) :: rest))) :
    W p l e R s m args below meth c H locs cells slots Q (F0 m pc ls (.int v :: .ref b :: rest)) := by
  obtain ⟨hx, hb, hml, hown, hts⟩ := Sx
  have hXH : va_X b L xs s H := hX.kept (hS.2.1 b hbl hbA)
  have hbH : b < H.size := Nat.lt_of_lt_of_le hbl hS.1
  refine va_calli (va_runS (As := [.ref b, .int v]) (rest := rest) ⟨hx, hb, hml, hown, hts⟩ (c_cell l H.size b L xs v hv hL hbH) (va_cwS 2 hts hG rfl rfl rfl (by decide +kernel) ⟨hR.1, hR.2⟩)
    ⟨fun a U g mk q => ⟨q.1, q.2.1, (va_X.moved (u := U) (U := U.calling g mk a) (Vm.Alike.refl U.vm) q.2.2)⟩, fun U hU hWU => ⟨rfl, by rw [hU], by rw [hU]; exact va_X.moved hWU.alike hXH⟩⟩ rfl rfl hsz rfl (by show 2 * 0 + _ ≤ 8; omega) hdg ⟨hc, hs⟩) hS
    (fun q h1 h2 => by
      rcases h2 with ⟨k, e9, h⟩ | h
      · simp at h
      · omega)
    (fun q h => by
      rcases h with ⟨k, e9, h⟩ | h
      · simp at h
      · exact hA q (Nat.le_trans hS.1 h)) (fun r u t H1 locs1 ht hvm hw hB hz1 hk1 hS1 => ?_)
  subst hw
  refine kk H1 locs1 (hP.kept (fun k q hq => hk1 q.1 (hP k q hq).lt (fun h => ?_))) hS1
  have hlt := (hP k q hq).lt
  rcases h with ⟨k, e9, h⟩ | h
  · simp at h
  · omega
end VQ
