def f_within (n : Int32) (lo : Int32) (hi : Int32) : Int32 := jmax lo (jmin hi n)
set_option maxHeartbeats 4000000 in
set_option maxRecDepth 100000 in
theorem c_within (l : Launch) (D : va_G) (sa : Nat → Nat) (sz : Nat)  (n : Int32) (lo : Int32) (hi : Int32)  : Met l y_Lp_within w_Lp_within ({ frames := 1, cells := 0, slots := 0, locals := 14 }) (va_Pc [.int n, .int lo, .int hi] (vq_pre D sa [] [] sz)) (va_Qi (fun (r0 : Int32) (u : Unit) => f_within n lo hi = r0) (vq_B D (va_A [] sz) [] (fun (u : Unit) => [])) (va_A [] sz)) 0 0 (va_A [] sz) := by
  refine Met.ofW (cc := b_Lp_within) (maxL := 3) (ret := (some .int)) (by decide) rfl ?_
  intro p e s m args below meth c s₁ B hml hv
  obtain ⟨rfl, hsz, hP, hK, hD0, hE⟩ := hv
  have hx := B.exec
  have hb := B.bytes
  have hr := B.returns
  have hts := atoms_spec (ws := w_Lp_within) B.pre
  have hu : ∀ w9 ∈ vU, Cond.before w9 ([.int n, .int lo, .int hi]).toArray s = true := fun w9 h => hts w9 (List.mem_cons_of_mem _ h)
  have hown : s.vm.findClass R_Lp = some m.cls := findClass_of_methodNamed B.named
  have hlocks := B.notSynchronized
  subst hsz
  have hD := hD0.self (sz := s.heap.size)
  generalize hAe : va_A [] s.heap.size = A at hD ⊢
  have hA : ∀ q : Nat, s.heap.size ≤ q → A q := fun q h => by rw [← hAe]; exact Or.inr h
  have hS : va_S A s.heap s.heap [] := va_S.rf
  have hP : va_P D vwCl [] s.heap := hP
  have hl := lv_entry ([.int n, .int lo, .int hi]) (n := 3) (Nat.le_of_ble_eq_true rfl)
  rw [lg_entry_eq]
  generalize (lg_sl ([.int n, .int lo, .int hi]) ++ List.replicate (3 - (lg_sl ([.int n, .int lo, .int hi])).length) Slot.unset).toArray = ls at hl ⊢
  have hl : lv_has ls 3 [(0, .int n), (1, .int lo), (2, .int hi)] := hl
  refine lv_iload_n hx hb d_Lp_within_0 rfl (lv_at hl 1 rfl) ?_
  refine lv_iload_n hx hb d_Lp_within_1 rfl (lv_at hl 2 rfl) ?_
  refine lv_iload_n hx hb d_Lp_within_2 rfl (lv_at hl 0 rfl) ?_
  refine va_mmin hx hb (hml.trans hl.1.symm) hown (hu _ hw_58) (hu _ hw_59) (hu _ hw_33) (hu _ hw_60) (Nat.le_of_ble_eq_true rfl) (Nat.le_of_ble_eq_true rfl) (Nat.le_of_ble_eq_true rfl) (Nat.le_of_ble_eq_true rfl) d_Lp_within_3 ?_
  refine W.eq (g2 := F0 m 6 ls [.int (jmin hi n), .int lo]) rfl ?_
  refine va_mmax hx hb (hml.trans hl.1.symm) hown (hu _ hw_61) (hu _ hw_62) (hu _ hw_33) (hu _ hw_63) (Nat.le_of_ble_eq_true rfl) (Nat.le_of_ble_eq_true rfl) (Nat.le_of_ble_eq_true rfl) (Nat.le_of_ble_eq_true rfl) d_Lp_within_6 ?_
  refine W.eq (g2 := F0 m 9 ls [.int (jmax lo (jmin hi n))]) rfl ?_
  have hP9 : va_P D vwCl ([]) s.heap := hP.sub [] rfl
  have hD9 : va_D A ([]) := hD.sub [] (by decide) rfl
  exact W.iret (v := jmax lo (jmin hi n)) hx hb hr (fun t ht hW => ⟨⟨jmax lo (jmin hi n), (), rfl, by rw [f_within], by rw [ht]; exact hP9, va_K.moved hW.alike (hK.sub [] rfl), hD9⟩, hS.F ht⟩) hS.2.2 d_Lp_within_9
def f_divided (n : Int32) (by_ : Int32) : Int32 :=
  if by_ ≤ 0 then 0
  else n / by_
set_option maxHeartbeats 4000000 in
set_option maxRecDepth 100000 in
theorem c_divided (l : Launch) (D : va_G) (sa : Nat → Nat) (sz : Nat)  (n : Int32) (by_ : Int32)  : Met l y_Lp_divided w_Lp_divided ({ frames := 0, cells := 0, slots := 0, locals := 0 }) (va_Pc [.int n, .int by_] (vq_pre D sa [] [] sz)) (va_Qi (fun (r0 : Int32) (u : Unit) => f_divided n by_ = r0) (vq_B D (va_A [] sz) [] (fun (u : Unit) => [])) (va_A [] sz)) 0 0 (va_A [] sz) := by
  refine Met.ofW (cc := b_Lp_divided) (maxL := 2) (ret := (some .int)) (by decide) rfl ?_
  intro p e s m args below meth c s₁ B hml hv
  obtain ⟨rfl, hsz, hP, hK, hD0, hE⟩ := hv
  have hx := B.exec
  have hb := B.bytes
  have hr := B.returns
  have hts := atoms_spec (ws := w_Lp_divided) B.pre
  have hu : ∀ w9 ∈ vU, Cond.before w9 ([.int n, .int by_]).toArray s = true := fun w9 h => hts w9 (List.mem_cons_of_mem _ h)
  have hown : s.vm.findClass R_Lp = some m.cls := findClass_of_methodNamed B.named
  have hlocks := B.notSynchronized
  subst hsz
  have hD := hD0.self (sz := s.heap.size)
  generalize hAe : va_A [] s.heap.size = A at hD ⊢
  have hA : ∀ q : Nat, s.heap.size ≤ q → A q := fun q h => by rw [← hAe]; exact Or.inr h
  have hS : va_S A s.heap s.heap [] := va_S.rf
  have hP : va_P D vwCl [] s.heap := hP
  have hl := lv_entry ([.int n, .int by_]) (n := 2) (Nat.le_of_ble_eq_true rfl)
  rw [lg_entry_eq]
  generalize (lg_sl ([.int n, .int by_]) ++ List.replicate (2 - (lg_sl ([.int n, .int by_])).length) Slot.unset).toArray = ls at hl ⊢
  have hl : lv_has ls 2 [(0, .int n), (1, .int by_)] := hl
  refine lv_iload_n hx hb d_Lp_divided_0 rfl (lv_at hl 1 rfl) ?_
  refine lv_if_le (tgt := 10) hx hb d_Lp_divided_1 (by decide) (fun c_1 => ?_) (fun c_1 => ?_)
  · refine lv_iconst (v := 0) hx hb d_Lp_divided_10 (by decide) ?_
    have hP9 : va_P D vwCl ([]) s.heap := hP.sub [] rfl
    have hD9 : va_D A ([]) := hD.sub [] (by decide) rfl
    exact W.iret (v := 0) hx hb hr (fun t ht hW => ⟨⟨0, (), rfl, by rw [f_divided, if_pos c_1], by rw [ht]; exact hP9, va_K.moved hW.alike (hK.sub [] rfl), hD9⟩, hS.F ht⟩) hS.2.2 d_Lp_divided_11
  · refine lv_iload_n hx hb d_Lp_divided_4 rfl (lv_at hl 0 rfl) ?_
    refine lv_iload_n hx hb d_Lp_divided_5 rfl (lv_at hl 1 rfl) ?_
    refine lv_idiv hx hb d_Lp_divided_6 (fun h9 => absurd c_1 (by rw [h9]; decide)) ?_
    refine lv_goto (tgt := 11) hx hb d_Lp_divided_7 (by decide) ?_
    have hP9 : va_P D vwCl ([]) s.heap := hP.sub [] rfl
    have hD9 : va_D A ([]) := hD.sub [] (by decide) rfl
    exact W.iret (v := n / by_) hx hb hr (fun t ht hW => ⟨⟨n / by_, (), rfl, by rw [f_divided, if_neg c_1], by rw [ht]; exact hP9, va_K.moved hW.alike (hK.sub [] rfl), hD9⟩, hS.F ht⟩) hS.2.2 d_Lp_divided_11
