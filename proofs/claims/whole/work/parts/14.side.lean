def f_awaits (n : Nat) (d : Nat → Int32) (rr : Nat → Int32) (v : Int32) : Int32 :=
  if (d 0) ≤ (d 1) then 0
  else
    if v = (d 1) then 1
    else 0
set_option maxHeartbeats 4000000 in
set_option maxRecDepth 100000 in
theorem c_awaits (l : Launch) (D : va_G) (sa : Nat → Nat) (sz : Nat) (qs : Nat) (qr : Nat) (cr : ClassId) (qc : Nat) (qg : Nat) (n : Nat) (d : Nat → Int32) (rr : Nat → Int32) (v : Int32) (hn : n < 2 ^ 31) : Met l y_Si_awaits w_Si_awaits ({ frames := 0, cells := 0, slots := 0, locals := 0 }) (va_Pc [.ref qs, .int v] (vq_pre D sa [(qs, k_Si qc qg qr d), (qr, .inl (cr, n, .inl rr))] [(cr, .int)] sz)) (va_Qi (fun (r0 : Int32) (u : Unit) => f_awaits n d rr v = r0) (vq_B D (va_A [(qs, k_Si qc qg qr d), (qr, .inl (cr, n, .inl rr))] sz) [(cr, .int)] (fun (u : Unit) => [(qs, k_Si qc qg qr d), (qr, .inl (cr, n, .inl rr))])) (va_A [(qs, k_Si qc qg qr d), (qr, .inl (cr, n, .inl rr))] sz)) 0 0 (va_A [(qs, k_Si qc qg qr d), (qr, .inl (cr, n, .inl rr))] sz) := by
  refine Met.ofW (cc := b_Si_awaits) (maxL := 2) (ret := (some .boolean)) (by decide) rfl ?_
  intro p e s m args below meth c s₁ B hml hv
  obtain ⟨rfl, hsz, hP, hK, hD0, hE⟩ := hv
  have hx := B.exec
  have hb := B.bytes
  have hr := B.returns
  have hts := atoms_spec (ws := w_Si_awaits) B.pre
  have hu : ∀ w9 ∈ vU, Cond.before w9 ([.ref qs, .int v]).toArray s = true := fun w9 h => hts w9 (List.mem_cons_of_mem _ h)
  have hown : s.vm.findClass R_Si = some m.cls := findClass_of_methodNamed B.named
  have hlocks := B.notSynchronized
  subst hsz
  have hD := hD0.self (sz := s.heap.size)
  generalize hAe : va_A [(qs, k_Si qc qg qr d), (qr, .inl (cr, n, .inl rr))] s.heap.size = A at hD ⊢
  have hA : ∀ q : Nat, s.heap.size ≤ q → A q := fun q h => by rw [← hAe]; exact Or.inr h
  have hS : va_S A s.heap s.heap [] := va_S.rf
  have hP : va_P D vwCl [(qs, k_Si qc qg qr d), (qr, .inl (cr, n, .inl rr))] s.heap := hP
  have hl := lv_entry ([.ref qs, .int v]) (n := 2) (Nat.le_of_ble_eq_true rfl)
  rw [lg_entry_eq]
  generalize (lg_sl ([.ref qs, .int v]) ++ List.replicate (2 - (lg_sl ([.ref qs, .int v])).length) Slot.unset).toArray = ls at hl ⊢
  have hl : lv_has ls 2 [(0, .ref qs), (1, .int v)] := hl
  refine lv_aload_n hx hb d_Si_awaits_0 rfl (lv_at hl 0 rfl) ?_
  refine va_get (D := D) (ci := 2) (v := .int (d 1)) (C := R_Si) (T := T_Si) (N := 9) hx hb hu in_Si hown hK hP 0 rfl rfl 3 (by decide) (hu _ hw_141) (fun _ h9 => h9) rfl d_Si_awaits_1 ?_
  refine lv_aload_n hx hb d_Si_awaits_4 rfl (lv_at hl 0 rfl) ?_
  refine va_get (D := D) (ci := 2) (v := .int (d 0)) (C := R_Si) (T := T_Si) (N := 9) hx hb hu in_Si hown hK hP 0 rfl rfl 2 (by decide) (hu _ hw_140) (fun _ h9 => h9) rfl d_Si_awaits_5 ?_
  refine lv_icmp_ge (tgt := 23) hx hb d_Si_awaits_8 (by decide) (fun c_1 => ?_) (fun c_1 => ?_)
  · refine lv_iconst (v := 0) hx hb d_Si_awaits_23 (by decide) ?_
    have hP9 : va_P D vwCl ([(qs, k_Si qc qg qr d), (qr, .inl (cr, n, .inl rr))]) s.heap := hP.sub [0, 1] rfl
    have hD9 : va_D A ([(qs, k_Si qc qg qr d), (qr, .inl (cr, n, .inl rr))]) := hD.sub [0, 1] (by decide) rfl
    exact W.zret (v := 0) hx hb hr rfl (fun t ht hW => ⟨⟨0, (), rfl, by rw [f_awaits, if_pos c_1], by rw [ht]; exact hP9, va_K.moved hW.alike (hK.sub [0] rfl), hD9⟩, hS.F ht⟩) hS.2.2 d_Si_awaits_24
  · refine lv_iload_n hx hb d_Si_awaits_11 rfl (lv_at hl 1 rfl) ?_
    refine lv_aload_n hx hb d_Si_awaits_12 rfl (lv_at hl 0 rfl) ?_
    refine va_get (D := D) (ci := 2) (v := .int (d 1)) (C := R_Si) (T := T_Si) (N := 9) hx hb hu in_Si hown hK hP 0 rfl rfl 3 (by decide) (hu _ hw_141) (fun _ h9 => h9) rfl d_Si_awaits_13 ?_
    refine lv_icmp_ne (tgt := 23) hx hb d_Si_awaits_16 (by decide) (fun c_2 => ?_) (fun c_2 => ?_)
    · refine lv_iconst (v := 0) hx hb d_Si_awaits_23 (by decide) ?_
      have hP9 : va_P D vwCl ([(qs, k_Si qc qg qr d), (qr, .inl (cr, n, .inl rr))]) s.heap := hP.sub [0, 1] rfl
      have hD9 : va_D A ([(qs, k_Si qc qg qr d), (qr, .inl (cr, n, .inl rr))]) := hD.sub [0, 1] (by decide) rfl
      exact W.zret (v := 0) hx hb hr rfl (fun t ht hW => ⟨⟨0, (), rfl, by rw [f_awaits, if_neg c_1, if_neg c_2], by rw [ht]; exact hP9, va_K.moved hW.alike (hK.sub [0] rfl), hD9⟩, hS.F ht⟩) hS.2.2 d_Si_awaits_24
    · refine lv_iconst (v := 1) hx hb d_Si_awaits_19 (by decide) ?_
      refine lv_goto (tgt := 24) hx hb d_Si_awaits_20 (by decide) ?_
      have hP9 : va_P D vwCl ([(qs, k_Si qc qg qr d), (qr, .inl (cr, n, .inl rr))]) s.heap := hP.sub [0, 1] rfl
      have hD9 : va_D A ([(qs, k_Si qc qg qr d), (qr, .inl (cr, n, .inl rr))]) := hD.sub [0, 1] (by decide) rfl
      exact W.zret (v := 1) hx hb hr rfl (fun t ht hW => ⟨⟨1, (), rfl, by rw [f_awaits, if_neg c_1, if_pos c_2], by rw [ht]; exact hP9, va_K.moved hW.alike (hK.sub [0] rfl), hD9⟩, hS.F ht⟩) hS.2.2 d_Si_awaits_24
def f_rowAt (n : Nat) (d : Nat → Int32) (rr : Nat → Int32) (v : Int32) : Int32 :=
  if v < 0 then 0
  else
    if (nI n) ≤ v then 0
    else rr (v).toNatClampNeg
set_option maxHeartbeats 4000000 in
set_option maxRecDepth 100000 in
theorem c_rowAt (l : Launch) (D : va_G) (sa : Nat → Nat) (sz : Nat) (qs : Nat) (qr : Nat) (cr : ClassId) (qc : Nat) (qg : Nat) (n : Nat) (d : Nat → Int32) (rr : Nat → Int32) (v : Int32) (hn : n < 2 ^ 31) : Met l y_Si_rowAt w_Si_rowAt ({ frames := 0, cells := 0, slots := 0, locals := 0 }) (va_Pc [.ref qs, .int v] (vq_pre D sa [(qs, k_Si qc qg qr d), (qr, .inl (cr, n, .inl rr))] [(cr, .int)] sz)) (va_Qi (fun (r0 : Int32) (u : Unit) => f_rowAt n d rr v = r0) (vq_B D (va_A [(qs, k_Si qc qg qr d), (qr, .inl (cr, n, .inl rr))] sz) [(cr, .int)] (fun (u : Unit) => [(qs, k_Si qc qg qr d), (qr, .inl (cr, n, .inl rr))])) (va_A [(qs, k_Si qc qg qr d), (qr, .inl (cr, n, .inl rr))] sz)) 0 0 (va_A [(qs, k_Si qc qg qr d), (qr, .inl (cr, n, .inl rr))] sz) := by
  refine Met.ofW (cc := b_Si_rowAt) (maxL := 2) (ret := (some .int)) (by decide) rfl ?_
  intro p e s m args below meth c s₁ B hml hv
  obtain ⟨rfl, hsz, hP, hK, hD0, hE⟩ := hv
  have hx := B.exec
  have hb := B.bytes
  have hr := B.returns
  have hts := atoms_spec (ws := w_Si_rowAt) B.pre
  have hu : ∀ w9 ∈ vU, Cond.before w9 ([.ref qs, .int v]).toArray s = true := fun w9 h => hts w9 (List.mem_cons_of_mem _ h)
  have hown : s.vm.findClass R_Si = some m.cls := findClass_of_methodNamed B.named
  have hlocks := B.notSynchronized
  subst hsz
  have hD := hD0.self (sz := s.heap.size)
  generalize hAe : va_A [(qs, k_Si qc qg qr d), (qr, .inl (cr, n, .inl rr))] s.heap.size = A at hD ⊢
  have hA : ∀ q : Nat, s.heap.size ≤ q → A q := fun q h => by rw [← hAe]; exact Or.inr h
  have hS : va_S A s.heap s.heap [] := va_S.rf
  have hP : va_P D vwCl [(qs, k_Si qc qg qr d), (qr, .inl (cr, n, .inl rr))] s.heap := hP
  have hl := lv_entry ([.ref qs, .int v]) (n := 2) (Nat.le_of_ble_eq_true rfl)
  rw [lg_entry_eq]
  generalize (lg_sl ([.ref qs, .int v]) ++ List.replicate (2 - (lg_sl ([.ref qs, .int v])).length) Slot.unset).toArray = ls at hl ⊢
  have hl : lv_has ls 2 [(0, .ref qs), (1, .int v)] := hl
  refine lv_iload_n hx hb d_Si_rowAt_0 rfl (lv_at hl 1 rfl) ?_
  refine lv_if_lt (tgt := 22) hx hb d_Si_rowAt_1 (by decide) (fun c_1 => ?_) (fun c_1 => ?_)
  · refine lv_iconst (v := 0) hx hb d_Si_rowAt_22 (by decide) ?_
    have hP9 : va_P D vwCl ([(qs, k_Si qc qg qr d), (qr, .inl (cr, n, .inl rr))]) s.heap := hP.sub [0, 1] rfl
    have hD9 : va_D A ([(qs, k_Si qc qg qr d), (qr, .inl (cr, n, .inl rr))]) := hD.sub [0, 1] (by decide) rfl
    exact W.iret (v := 0) hx hb hr (fun t ht hW => ⟨⟨0, (), rfl, by rw [f_rowAt, if_pos c_1], by rw [ht]; exact hP9, va_K.moved hW.alike (hK.sub [0] rfl), hD9⟩, hS.F ht⟩) hS.2.2 d_Si_rowAt_23
  · refine lv_iload_n hx hb d_Si_rowAt_4 rfl (lv_at hl 1 rfl) ?_
    refine lv_aload_n hx hb d_Si_rowAt_5 rfl (lv_at hl 0 rfl) ?_
    refine va_get (D := D) (ci := 2) (v := .ref qr) (C := R_Si) (T := T_Si) (N := 9) hx hb hu in_Si hown hK hP 0 rfl rfl 6 (by decide) (hu _ hw_147) (fun _ h9 => h9) rfl d_Si_rowAt_6 ?_
    refine va_alen (v := nI n) hx hb hK hP 1 0 rfl rfl rfl d_Si_rowAt_9 ?_
    refine lv_icmp_ge (tgt := 22) hx hb d_Si_rowAt_10 (by decide) (fun c_2 => ?_) (fun c_2 => ?_)
    · refine lv_iconst (v := 0) hx hb d_Si_rowAt_22 (by decide) ?_
      have hP9 : va_P D vwCl ([(qs, k_Si qc qg qr d), (qr, .inl (cr, n, .inl rr))]) s.heap := hP.sub [0, 1] rfl
      have hD9 : va_D A ([(qs, k_Si qc qg qr d), (qr, .inl (cr, n, .inl rr))]) := hD.sub [0, 1] (by decide) rfl
      exact W.iret (v := 0) hx hb hr (fun t ht hW => ⟨⟨0, (), rfl, by rw [f_rowAt, if_neg c_1, if_pos c_2], by rw [ht]; exact hP9, va_K.moved hW.alike (hK.sub [0] rfl), hD9⟩, hS.F ht⟩) hS.2.2 d_Si_rowAt_23
    · refine lv_aload_n hx hb d_Si_rowAt_13 rfl (lv_at hl 0 rfl) ?_
      refine va_get (D := D) (ci := 2) (v := .ref qr) (C := R_Si) (T := T_Si) (N := 9) hx hb hu in_Si hown hK hP 0 rfl rfl 6 (by decide) (hu _ hw_147) (fun _ h9 => h9) rfl d_Si_rowAt_14 ?_
      refine lv_iload_n hx hb d_Si_rowAt_17 rfl (lv_at hl 1 rfl) ?_
      refine va_iald hx hb hK hP 1 0 rfl rfl (by first | exact vq_in hn (by assumption) (by assumption) | exact vq_in2 hn (by assumption) (by assumption)) d_Si_rowAt_18 ?_
      refine lv_goto (tgt := 23) hx hb d_Si_rowAt_19 (by decide) ?_
      have hP9 : va_P D vwCl ([(qs, k_Si qc qg qr d), (qr, .inl (cr, n, .inl rr))]) s.heap := hP.sub [0, 1] rfl
      have hD9 : va_D A ([(qs, k_Si qc qg qr d), (qr, .inl (cr, n, .inl rr))]) := hD.sub [0, 1] (by decide) rfl
      exact W.iret (v := rr (v).toNatClampNeg) hx hb hr (fun t ht hW => ⟨⟨rr (v).toNatClampNeg, (), rfl, by rw [f_rowAt, if_neg c_1, if_neg c_2], by rw [ht]; exact hP9, va_K.moved hW.alike (hK.sub [0] rfl), hD9⟩, hS.F ht⟩) hS.2.2 d_Si_rowAt_23
def f_goToNextRow (n : Nat) (d : Nat → Int32) (rr : Nat → Int32) : Int32 × (Nat → Int32) :=
  if (d 0) ≤ (d 1) then (1, (mk6 (d 0) 0 ((d 2) + 1) 0 (d 5) (d 5)))
  else (0, d)
set_option maxHeartbeats 4000000 in
set_option maxRecDepth 100000 in
theorem c_goToNextRow (l : Launch) (D : va_G) (sa : Nat → Nat) (sz : Nat) (qs : Nat) (qr : Nat) (cr : ClassId) (qc : Nat) (qg : Nat) (n : Nat) (d : Nat → Int32) (rr : Nat → Int32) (hn : n < 2 ^ 31) : Met l y_Si_goToNextRow w_Si_goToNextRow ({ frames := 0, cells := 0, slots := 0, locals := 0 }) (va_Pc [.ref qs] (vq_pre D sa [(qs, k_Si qc qg qr d), (qr, .inl (cr, n, .inl rr))] [(cr, .int)] sz)) (va_Qi (fun (r0 : Int32) (u : (Nat → Int32)) => f_goToNextRow n d rr = (r0, u)) (vq_B D (va_A [(qs, k_Si qc qg qr d), (qr, .inl (cr, n, .inl rr))] sz) [(cr, .int)] (fun (u : (Nat → Int32)) => [(qs, k_Si qc qg qr u), (qr, .inl (cr, n, .inl rr))])) (va_A [(qs, k_Si qc qg qr d), (qr, .inl (cr, n, .inl rr))] sz)) 0 0 (va_A [(qs, k_Si qc qg qr d), (qr, .inl (cr, n, .inl rr))] sz) := by
  refine Met.ofW (cc := b_Si_goToNextRow) (maxL := 1) (ret := (some .boolean)) (by decide) rfl ?_
  intro p e s m args below meth c s₁ B hml hv
  obtain ⟨rfl, hsz, hP, hK, hD0, hE⟩ := hv
  have hx := B.exec
  have hb := B.bytes
  have hr := B.returns
  have hts := atoms_spec (ws := w_Si_goToNextRow) B.pre
  have hu : ∀ w9 ∈ vU, Cond.before w9 ([.ref qs]).toArray s = true := fun w9 h => hts w9 (List.mem_cons_of_mem _ h)
  have hown : s.vm.findClass R_Si = some m.cls := findClass_of_methodNamed B.named
  have hlocks := B.notSynchronized
  subst hsz
  have hD := hD0.self (sz := s.heap.size)
  generalize hAe : va_A [(qs, k_Si qc qg qr d), (qr, .inl (cr, n, .inl rr))] s.heap.size = A at hD ⊢
  have hA : ∀ q : Nat, s.heap.size ≤ q → A q := fun q h => by rw [← hAe]; exact Or.inr h
  have hS : va_S A s.heap s.heap [] := va_S.rf
  have hP : va_P D vwCl [(qs, k_Si qc qg qr d), (qr, .inl (cr, n, .inl rr))] s.heap := hP
  have hl := lv_entry ([.ref qs]) (n := 1) (Nat.le_of_ble_eq_true rfl)
  rw [lg_entry_eq]
  generalize (lg_sl ([.ref qs]) ++ List.replicate (1 - (lg_sl ([.ref qs])).length) Slot.unset).toArray = ls at hl ⊢
  have hl : lv_has ls 1 [(0, .ref qs)] := hl
  refine lv_aload_n hx hb d_Si_goToNextRow_0 rfl (lv_at hl 0 rfl) ?_
  refine va_get (D := D) (ci := 2) (v := .int (d 1)) (C := R_Si) (T := T_Si) (N := 9) hx hb hu in_Si hown hK hP 0 rfl rfl 3 (by decide) (hu _ hw_141) (fun _ h9 => h9) rfl d_Si_goToNextRow_1 ?_
  refine lv_aload_n hx hb d_Si_goToNextRow_4 rfl (lv_at hl 0 rfl) ?_
  refine va_get (D := D) (ci := 2) (v := .int (d 0)) (C := R_Si) (T := T_Si) (N := 9) hx hb hu in_Si hown hK hP 0 rfl rfl 2 (by decide) (hu _ hw_140) (fun _ h9 => h9) rfl d_Si_goToNextRow_5 ?_
  refine lv_icmp_ge (tgt := 13) hx hb d_Si_goToNextRow_8 (by decide) (fun c_1 => ?_) (fun c_1 => ?_)
  · refine lv_aload_n hx hb d_Si_goToNextRow_13 rfl (lv_at hl 0 rfl) ?_
    refine lv_iconst (v := 0) hx hb d_Si_goToNextRow_14 (by decide) ?_
    refine va_put (D := D) (ci := 2) (v := .int 0) (ty := .int) (C := R_Si) (T := T_Si) (N := 9) hx hb hu in_Si t_Si t_Si_ok n_Si hown hK hP hD hS 0 rfl rfl 3 (by decide) (hu _ hw_141) (fun _ h9 => h9) rfl (by decide +kernel) rfl rfl (Nat.le_of_ble_eq_true rfl) d_Si_goToNextRow_15 (fun H locs hP hD hS => ?_)
    have hP : va_P D vwCl [(qs, .inr (2, [.ref qc, .ref qg, .int (d 0), .int 0, .int (d 2), .int (d 3), .ref qr, .int (d 4), .int (d 5)])), (qr, .inl (cr, n, .inl rr))] H := hP
    have hD : va_D A [(qs, .inr (2, [.ref qc, .ref qg, .int (d 0), .int 0, .int (d 2), .int (d 3), .ref qr, .int (d 4), .int (d 5)])), (qr, .inl (cr, n, .inl rr))] := hD
    refine lv_aload_n hx hb d_Si_goToNextRow_18 rfl (lv_at hl 0 rfl) ?_
    refine lv_dup hx hb d_Si_goToNextRow_19 rfl ?_
    refine va_get (D := D) (ci := 2) (v := .int (d 2)) (C := R_Si) (T := T_Si) (N := 9) hx hb hu in_Si hown hK hP 0 rfl rfl 4 (by decide) (hu _ hw_143) (fun _ h9 => h9) rfl d_Si_goToNextRow_20 ?_
    refine lv_iconst (v := 1) hx hb d_Si_goToNextRow_23 (by decide) ?_
    refine lv_iadd hx hb d_Si_goToNextRow_24 ?_
    refine va_put (D := D) (ci := 2) (v := .int ((d 2) + 1)) (ty := .int) (C := R_Si) (T := T_Si) (N := 9) hx hb hu in_Si t_Si t_Si_ok n_Si hown hK hP hD hS 0 rfl rfl 4 (by decide) (hu _ hw_143) (fun _ h9 => h9) rfl (by decide +kernel) rfl rfl (Nat.le_of_ble_eq_true rfl) d_Si_goToNextRow_25 (fun H locs hP hD hS => ?_)
    have hP : va_P D vwCl [(qs, .inr (2, [.ref qc, .ref qg, .int (d 0), .int 0, .int ((d 2) + 1), .int (d 3), .ref qr, .int (d 4), .int (d 5)])), (qr, .inl (cr, n, .inl rr))] H := hP
    have hD : va_D A [(qs, .inr (2, [.ref qc, .ref qg, .int (d 0), .int 0, .int ((d 2) + 1), .int (d 3), .ref qr, .int (d 4), .int (d 5)])), (qr, .inl (cr, n, .inl rr))] := hD
    refine lv_aload_n hx hb d_Si_goToNextRow_28 rfl (lv_at hl 0 rfl) ?_
    refine lv_iconst (v := 0) hx hb d_Si_goToNextRow_29 (by decide) ?_
    refine va_put (D := D) (ci := 2) (v := .int 0) (ty := .boolean) (C := R_Si) (T := T_Si) (N := 9) hx hb hu in_Si t_Si t_Si_ok n_Si hown hK hP hD hS 0 rfl rfl 5 (by decide) (hu _ hw_145) (fun _ h9 => h9) rfl (by decide +kernel) rfl rfl (Nat.le_of_ble_eq_true rfl) d_Si_goToNextRow_30 (fun H locs hP hD hS => ?_)
    have hP : va_P D vwCl [(qs, .inr (2, [.ref qc, .ref qg, .int (d 0), .int 0, .int ((d 2) + 1), .int 0, .ref qr, .int (d 4), .int (d 5)])), (qr, .inl (cr, n, .inl rr))] H := hP
    have hD : va_D A [(qs, .inr (2, [.ref qc, .ref qg, .int (d 0), .int 0, .int ((d 2) + 1), .int 0, .ref qr, .int (d 4), .int (d 5)])), (qr, .inl (cr, n, .inl rr))] := hD
    refine lv_aload_n hx hb d_Si_goToNextRow_33 rfl (lv_at hl 0 rfl) ?_
    refine lv_aload_n hx hb d_Si_goToNextRow_34 rfl (lv_at hl 0 rfl) ?_
    refine va_get (D := D) (ci := 2) (v := .int (d 5)) (C := R_Si) (T := T_Si) (N := 9) hx hb hu in_Si hown hK hP 0 rfl rfl 8 (by decide) (hu _ hw_149) (fun _ h9 => h9) rfl d_Si_goToNextRow_35 ?_
    refine va_put (D := D) (ci := 2) (v := .int (d 5)) (ty := .int) (C := R_Si) (T := T_Si) (N := 9) hx hb hu in_Si t_Si t_Si_ok n_Si hown hK hP hD hS 0 rfl rfl 7 (by decide) (hu _ hw_148) (fun _ h9 => h9) rfl (by decide +kernel) rfl rfl (Nat.le_of_ble_eq_true rfl) d_Si_goToNextRow_38 (fun H locs hP hD hS => ?_)
    have hP : va_P D vwCl [(qs, .inr (2, [.ref qc, .ref qg, .int (d 0), .int 0, .int ((d 2) + 1), .int 0, .ref qr, .int (d 5), .int (d 5)])), (qr, .inl (cr, n, .inl rr))] H := hP
    have hD : va_D A [(qs, .inr (2, [.ref qc, .ref qg, .int (d 0), .int 0, .int ((d 2) + 1), .int 0, .ref qr, .int (d 5), .int (d 5)])), (qr, .inl (cr, n, .inl rr))] := hD
    refine lv_iconst (v := 1) hx hb d_Si_goToNextRow_41 (by decide) ?_
    have hP9 : va_P D vwCl ([(qs, k_Si qc qg qr (mk6 (d 0) 0 ((d 2) + 1) 0 (d 5) (d 5))), (qr, .inl (cr, n, .inl rr))]) H := hP.sub [0, 1] rfl
    have hD9 : va_D A ([(qs, k_Si qc qg qr (mk6 (d 0) 0 ((d 2) + 1) 0 (d 5) (d 5))), (qr, .inl (cr, n, .inl rr))]) := hD.sub [0, 1] (by decide) rfl
    exact W.zret (v := 1) hx hb hr rfl (fun t ht hW => ⟨⟨1, (mk6 (d 0) 0 ((d 2) + 1) 0 (d 5) (d 5)), rfl, by rw [f_goToNextRow, if_pos c_1], by rw [ht]; exact hP9, va_K.moved hW.alike (hK.sub [0] rfl), hD9⟩, hS.F ht⟩) hS.2.2 d_Si_goToNextRow_42
  · refine lv_iconst (v := 0) hx hb d_Si_goToNextRow_11 (by decide) ?_
    have hP9 : va_P D vwCl ([(qs, k_Si qc qg qr d), (qr, .inl (cr, n, .inl rr))]) s.heap := hP.sub [0, 1] rfl
    have hD9 : va_D A ([(qs, k_Si qc qg qr d), (qr, .inl (cr, n, .inl rr))]) := hD.sub [0, 1] (by decide) rfl
    exact W.zret (v := 0) hx hb hr rfl (fun t ht hW => ⟨⟨0, d, rfl, by rw [f_goToNextRow, if_neg c_1], by rw [ht]; exact hP9, va_K.moved hW.alike (hK.sub [0] rfl), hD9⟩, hS.F ht⟩) hS.2.2 d_Si_goToNextRow_12
def f_keep_2 (n : Nat) (d : Nat → Int32) (rr : Nat → Int32) (v : Int32) (z : Int32) (r_1 : Int32) : (Nat → Int32) × (Nat → Int32) :=
  if (d 1) = 0 then
    if (d 1) < 0 then ((mk6 (d 0) ((d 1) + 1) (d 2) z r_1 r_1), rr)
    else
      if (nI n) ≤ (d 1) then ((mk6 (d 0) ((d 1) + 1) (d 2) z r_1 r_1), rr)
      else ((mk6 (d 0) ((d 1) + 1) (d 2) z r_1 r_1), upd rr (d 1).toNatClampNeg v)
  else
    if (d 1) < 0 then ((mk6 (d 0) ((d 1) + 1) (d 2) z r_1 (d 5)), rr)
    else
      if (nI n) ≤ (d 1) then ((mk6 (d 0) ((d 1) + 1) (d 2) z r_1 (d 5)), rr)
      else ((mk6 (d 0) ((d 1) + 1) (d 2) z r_1 (d 5)), upd rr (d 1).toNatClampNeg v)
def f_keep (n : Nat) (d : Nat → Int32) (rr : Nat → Int32) (v : Int32) (z : Int32) : (Nat → Int32) × (Nat → Int32) := f_keep_2 n d rr v z (f_rowAt n d rr (d 1))
set_option maxHeartbeats 4000000 in
set_option maxRecDepth 100000 in
theorem c_keep (l : Launch) (D : va_G) (sa : Nat → Nat) (sz : Nat) (qs : Nat) (qr : Nat) (cr : ClassId) (qc : Nat) (qg : Nat) (n : Nat) (d : Nat → Int32) (rr : Nat → Int32) (v : Int32) (z : Int32) (hn : n < 2 ^ 31) (hpl : ¬ nI n ≤ d 1) (hz : z = 0 ∨ z = 1) : Met l y_Si_keep w_Si_keep ({ frames := 1, cells := 0, slots := 0, locals := 21 }) (va_Pc [.ref qs, .int v, .int z] (vq_pre D sa [(qs, k_Si qc qg qr d), (qr, .inl (cr, n, .inl rr))] [(cr, .int)] sz)) (va_Qv (fun (u : (Nat → Int32) × (Nat → Int32)) => f_keep n d rr v z = u) (vq_B D (va_A [(qs, k_Si qc qg qr d), (qr, .inl (cr, n, .inl rr))] sz) [(cr, .int)] (fun (u : (Nat → Int32) × (Nat → Int32)) => [(qs, k_Si qc qg qr ((u).1)), (qr, .inl (cr, n, .inl ((u).2)))])) (va_A [(qs, k_Si qc qg qr d), (qr, .inl (cr, n, .inl rr))] sz)) 0 0 (va_A [(qs, k_Si qc qg qr d), (qr, .inl (cr, n, .inl rr))] sz) := by
  refine Met.ofW (cc := b_Si_keep) (maxL := 3) (ret := none) (by decide) rfl ?_
  intro p e s m args below meth c s₁ B hml hv
  obtain ⟨rfl, hsz, hP, hK, hD0, hE⟩ := hv
  have hx := B.exec
  have hb := B.bytes
  have hr := B.returns
  have hts := atoms_spec (ws := w_Si_keep) B.pre
  have hu : ∀ w9 ∈ vU, Cond.before w9 ([.ref qs, .int v, .int z]).toArray s = true := fun w9 h => hts w9 (List.mem_cons_of_mem _ h)
  have hown : s.vm.findClass R_Si = some m.cls := findClass_of_methodNamed B.named
  have hlocks := B.notSynchronized
  subst hsz
  have hD := hD0.self (sz := s.heap.size)
  generalize hAe : va_A [(qs, k_Si qc qg qr d), (qr, .inl (cr, n, .inl rr))] s.heap.size = A at hD ⊢
  have hA : ∀ q : Nat, s.heap.size ≤ q → A q := fun q h => by rw [← hAe]; exact Or.inr h
  have hS : va_S A s.heap s.heap [] := va_S.rf
  have hP : va_P D vwCl [(qs, k_Si qc qg qr d), (qr, .inl (cr, n, .inl rr))] s.heap := hP
  have hl := lv_entry ([.ref qs, .int v, .int z]) (n := 3) (Nat.le_of_ble_eq_true rfl)
  rw [lg_entry_eq]
  generalize (lg_sl ([.ref qs, .int v, .int z]) ++ List.replicate (3 - (lg_sl ([.ref qs, .int v, .int z])).length) Slot.unset).toArray = ls at hl ⊢
  have hl : lv_has ls 3 [(0, .ref qs), (1, .int v), (2, .int z)] := hl
  refine lv_aload_n hx hb d_Si_keep_0 rfl (lv_at hl 0 rfl) ?_
  refine lv_aload_n hx hb d_Si_keep_1 rfl (lv_at hl 0 rfl) ?_
  refine lv_aload_n hx hb d_Si_keep_2 rfl (lv_at hl 0 rfl) ?_
  refine va_get (D := D) (ci := 2) (v := .int (d 1)) (C := R_Si) (T := T_Si) (N := 9) hx hb hu in_Si hown hK hP 0 rfl rfl 3 (by decide) (hu _ hw_141) (fun _ h9 => h9) rfl d_Si_keep_3 ?_
  refine vq_i (wr := []) (va_runV (As := [.int (d 1)]) (rest := [.ref qs]) ⟨hx, hb, hml, hown, hts⟩ (c_rowAt l D sa s.heap.size qs qr cr qc qg n d rr (d 1) hn) (cwV 1 hts (vg_V (fun w h => List.mem_cons_of_mem _ h) hw_322 hw_323 hw_3 hw_35 hw_324) rfl rfl rfl (by decide +kernel) ⟨Nat.le_of_ble_eq_true rfl, Nat.le_of_ble_eq_true rfl⟩) (vq_pV hE hK hP hD [0, 1] [0] rfl (by decide) rfl 2 0 rfl rfl rfl) rfl rfl hl.1 rfl (lv_room (Nat.le_of_ble_eq_true rfl)) d_Si_keep_6 ⟨Nat.le_of_ble_eq_true rfl, Nat.le_of_ble_eq_true rfl⟩) hP hD hS hA [0, 1] [] rfl rfl (by decide) (by decide) (fun r_1 u_1 H locs e_1 hP hD hS => ?_)
  have hP : va_P D vwCl [(qs, k_Si qc qg qr d), (qr, .inl (cr, n, .inl rr))] H := hP
  have hD : va_D A [(qs, k_Si qc qg qr d), (qr, .inl (cr, n, .inl rr))] := hD
  refine va_put (D := D) (ci := 2) (v := .int r_1) (ty := .int) (C := R_Si) (T := T_Si) (N := 9) hx hb hu in_Si t_Si t_Si_ok n_Si hown hK hP hD hS 0 rfl rfl 7 (by decide) (hu _ hw_148) (fun _ h9 => h9) rfl (by decide +kernel) rfl rfl (Nat.le_of_ble_eq_true rfl) d_Si_keep_9 (fun H locs hP hD hS => ?_)
  have hP : va_P D vwCl [(qs, .inr (2, [.ref qc, .ref qg, .int (d 0), .int (d 1), .int (d 2), .int (d 3), .ref qr, .int r_1, .int (d 5)])), (qr, .inl (cr, n, .inl rr))] H := hP
  have hD : va_D A [(qs, .inr (2, [.ref qc, .ref qg, .int (d 0), .int (d 1), .int (d 2), .int (d 3), .ref qr, .int r_1, .int (d 5)])), (qr, .inl (cr, n, .inl rr))] := hD
  refine lv_aload_n hx hb d_Si_keep_12 rfl (lv_at hl 0 rfl) ?_
  refine va_get (D := D) (ci := 2) (v := .int (d 1)) (C := R_Si) (T := T_Si) (N := 9) hx hb hu in_Si hown hK hP 0 rfl rfl 3 (by decide) (hu _ hw_141) (fun _ h9 => h9) rfl d_Si_keep_13 ?_
  refine lv_if_ne (tgt := 27) hx hb d_Si_keep_16 (by decide) (fun c_3 => ?_) (fun c_3 => ?_)
  · refine lv_aload_n hx hb d_Si_keep_27 rfl (lv_at hl 0 rfl) ?_
    refine va_get (D := D) (ci := 2) (v := .int (d 1)) (C := R_Si) (T := T_Si) (N := 9) hx hb hu in_Si hown hK hP 0 rfl rfl 3 (by decide) (hu _ hw_141) (fun _ h9 => h9) rfl d_Si_keep_28 ?_
    refine lv_if_lt (tgt := 56) hx hb d_Si_keep_31 (by decide) (fun c_4 => ?_) (fun c_4 => ?_)
    · refine lv_aload_n hx hb d_Si_keep_56 rfl (lv_at hl 0 rfl) ?_
      refine lv_dup hx hb d_Si_keep_57 rfl ?_
      refine va_get (D := D) (ci := 2) (v := .int (d 1)) (C := R_Si) (T := T_Si) (N := 9) hx hb hu in_Si hown hK hP 0 rfl rfl 3 (by decide) (hu _ hw_141) (fun _ h9 => h9) rfl d_Si_keep_58 ?_
      refine lv_iconst (v := 1) hx hb d_Si_keep_61 (by decide) ?_
      refine lv_iadd hx hb d_Si_keep_62 ?_
      refine va_put (D := D) (ci := 2) (v := .int ((d 1) + 1)) (ty := .int) (C := R_Si) (T := T_Si) (N := 9) hx hb hu in_Si t_Si t_Si_ok n_Si hown hK hP hD hS 0 rfl rfl 3 (by decide) (hu _ hw_141) (fun _ h9 => h9) rfl (by decide +kernel) rfl rfl (Nat.le_of_ble_eq_true rfl) d_Si_keep_63 (fun H locs hP hD hS => ?_)
      have hP : va_P D vwCl [(qs, .inr (2, [.ref qc, .ref qg, .int (d 0), .int ((d 1) + 1), .int (d 2), .int (d 3), .ref qr, .int r_1, .int (d 5)])), (qr, .inl (cr, n, .inl rr))] H := hP
      have hD : va_D A [(qs, .inr (2, [.ref qc, .ref qg, .int (d 0), .int ((d 1) + 1), .int (d 2), .int (d 3), .ref qr, .int r_1, .int (d 5)])), (qr, .inl (cr, n, .inl rr))] := hD
      refine lv_aload_n hx hb d_Si_keep_66 rfl (lv_at hl 0 rfl) ?_
      refine lv_iload_n hx hb d_Si_keep_67 rfl (lv_at hl 2 rfl) ?_
      refine va_put (D := D) (ci := 2) (v := .int z) (ty := .boolean) (C := R_Si) (T := T_Si) (N := 9) hx hb hu in_Si t_Si t_Si_ok n_Si hown hK hP hD hS 0 rfl rfl 5 (by decide) (hu _ hw_145) (fun _ h9 => h9) rfl (by decide +kernel) (vq_nz hz) (vq_fz hz) (Nat.le_of_ble_eq_true rfl) d_Si_keep_68 (fun H locs hP hD hS => ?_)
      have hP : va_P D vwCl [(qs, .inr (2, [.ref qc, .ref qg, .int (d 0), .int ((d 1) + 1), .int (d 2), .int z, .ref qr, .int r_1, .int (d 5)])), (qr, .inl (cr, n, .inl rr))] H := hP
      have hD : va_D A [(qs, .inr (2, [.ref qc, .ref qg, .int (d 0), .int ((d 1) + 1), .int (d 2), .int z, .ref qr, .int r_1, .int (d 5)])), (qr, .inl (cr, n, .inl rr))] := hD
      have hP9 : va_P D vwCl ([(qs, k_Si qc qg qr (mk6 (d 0) ((d 1) + 1) (d 2) z r_1 (d 5))), (qr, .inl (cr, n, .inl rr))]) H := hP.sub [0, 1] rfl
      have hD9 : va_D A ([(qs, k_Si qc qg qr (mk6 (d 0) ((d 1) + 1) (d 2) z r_1 (d 5))), (qr, .inl (cr, n, .inl rr))]) := hD.sub [0, 1] (by decide) rfl
      exact W.vret hx hb hr (fun t ht hW => ⟨⟨((mk6 (d 0) ((d 1) + 1) (d 2) z r_1 (d 5)), rr), rfl, by rw [f_keep, e_1, f_keep_2, if_neg c_3, if_pos c_4], by rw [ht]; exact hP9, va_K.moved hW.alike (hK.sub [0] rfl), hD9⟩, hS.F ht⟩) hS.2.2 d_Si_keep_71
    · refine lv_aload_n hx hb d_Si_keep_34 rfl (lv_at hl 0 rfl) ?_
      refine va_get (D := D) (ci := 2) (v := .int (d 1)) (C := R_Si) (T := T_Si) (N := 9) hx hb hu in_Si hown hK hP 0 rfl rfl 3 (by decide) (hu _ hw_141) (fun _ h9 => h9) rfl d_Si_keep_35 ?_
      refine lv_aload_n hx hb d_Si_keep_38 rfl (lv_at hl 0 rfl) ?_
      refine va_get (D := D) (ci := 2) (v := .ref qr) (C := R_Si) (T := T_Si) (N := 9) hx hb hu in_Si hown hK hP 0 rfl rfl 6 (by decide) (hu _ hw_147) (fun _ h9 => h9) rfl d_Si_keep_39 ?_
      refine va_alen (v := nI n) hx hb hK hP 1 0 rfl rfl rfl d_Si_keep_42 ?_
      refine lv_icmp_ge (tgt := 56) hx hb d_Si_keep_43 (by decide) (fun c_5 => ?_) (fun c_5 => ?_)
      · refine lv_aload_n hx hb d_Si_keep_56 rfl (lv_at hl 0 rfl) ?_
        refine lv_dup hx hb d_Si_keep_57 rfl ?_
        refine va_get (D := D) (ci := 2) (v := .int (d 1)) (C := R_Si) (T := T_Si) (N := 9) hx hb hu in_Si hown hK hP 0 rfl rfl 3 (by decide) (hu _ hw_141) (fun _ h9 => h9) rfl d_Si_keep_58 ?_
        refine lv_iconst (v := 1) hx hb d_Si_keep_61 (by decide) ?_
        refine lv_iadd hx hb d_Si_keep_62 ?_
        refine va_put (D := D) (ci := 2) (v := .int ((d 1) + 1)) (ty := .int) (C := R_Si) (T := T_Si) (N := 9) hx hb hu in_Si t_Si t_Si_ok n_Si hown hK hP hD hS 0 rfl rfl 3 (by decide) (hu _ hw_141) (fun _ h9 => h9) rfl (by decide +kernel) rfl rfl (Nat.le_of_ble_eq_true rfl) d_Si_keep_63 (fun H locs hP hD hS => ?_)
        have hP : va_P D vwCl [(qs, .inr (2, [.ref qc, .ref qg, .int (d 0), .int ((d 1) + 1), .int (d 2), .int (d 3), .ref qr, .int r_1, .int (d 5)])), (qr, .inl (cr, n, .inl rr))] H := hP
        have hD : va_D A [(qs, .inr (2, [.ref qc, .ref qg, .int (d 0), .int ((d 1) + 1), .int (d 2), .int (d 3), .ref qr, .int r_1, .int (d 5)])), (qr, .inl (cr, n, .inl rr))] := hD
        refine lv_aload_n hx hb d_Si_keep_66 rfl (lv_at hl 0 rfl) ?_
        refine lv_iload_n hx hb d_Si_keep_67 rfl (lv_at hl 2 rfl) ?_
        refine va_put (D := D) (ci := 2) (v := .int z) (ty := .boolean) (C := R_Si) (T := T_Si) (N := 9) hx hb hu in_Si t_Si t_Si_ok n_Si hown hK hP hD hS 0 rfl rfl 5 (by decide) (hu _ hw_145) (fun _ h9 => h9) rfl (by decide +kernel) (vq_nz hz) (vq_fz hz) (Nat.le_of_ble_eq_true rfl) d_Si_keep_68 (fun H locs hP hD hS => ?_)
        have hP : va_P D vwCl [(qs, .inr (2, [.ref qc, .ref qg, .int (d 0), .int ((d 1) + 1), .int (d 2), .int z, .ref qr, .int r_1, .int (d 5)])), (qr, .inl (cr, n, .inl rr))] H := hP
        have hD : va_D A [(qs, .inr (2, [.ref qc, .ref qg, .int (d 0), .int ((d 1) + 1), .int (d 2), .int z, .ref qr, .int r_1, .int (d 5)])), (qr, .inl (cr, n, .inl rr))] := hD
        have hP9 : va_P D vwCl ([(qs, k_Si qc qg qr (mk6 (d 0) ((d 1) + 1) (d 2) z r_1 (d 5))), (qr, .inl (cr, n, .inl rr))]) H := hP.sub [0, 1] rfl
        have hD9 : va_D A ([(qs, k_Si qc qg qr (mk6 (d 0) ((d 1) + 1) (d 2) z r_1 (d 5))), (qr, .inl (cr, n, .inl rr))]) := hD.sub [0, 1] (by decide) rfl
        exact W.vret hx hb hr (fun t ht hW => ⟨⟨((mk6 (d 0) ((d 1) + 1) (d 2) z r_1 (d 5)), rr), rfl, by rw [f_keep, e_1, f_keep_2, if_neg c_3, if_neg c_4, if_pos c_5], by rw [ht]; exact hP9, va_K.moved hW.alike (hK.sub [0] rfl), hD9⟩, hS.F ht⟩) hS.2.2 d_Si_keep_71
      · refine lv_aload_n hx hb d_Si_keep_46 rfl (lv_at hl 0 rfl) ?_
        refine va_get (D := D) (ci := 2) (v := .ref qr) (C := R_Si) (T := T_Si) (N := 9) hx hb hu in_Si hown hK hP 0 rfl rfl 6 (by decide) (hu _ hw_147) (fun _ h9 => h9) rfl d_Si_keep_47 ?_
        refine lv_aload_n hx hb d_Si_keep_50 rfl (lv_at hl 0 rfl) ?_
        refine va_get (D := D) (ci := 2) (v := .int (d 1)) (C := R_Si) (T := T_Si) (N := 9) hx hb hu in_Si hown hK hP 0 rfl rfl 3 (by decide) (hu _ hw_141) (fun _ h9 => h9) rfl d_Si_keep_51 ?_
        refine lv_iload_n hx hb d_Si_keep_54 rfl (lv_at hl 1 rfl) ?_
        refine va_iast hx hb hK hP hD hS 1 0 rfl rfl (by first | exact vq_in hn (by assumption) (by assumption) | exact vq_in2 hn (by assumption) (by assumption)) d_Si_keep_55 (fun H locs hP hD hS => ?_)
        have hP : va_P D vwCl [(qs, .inr (2, [.ref qc, .ref qg, .int (d 0), .int (d 1), .int (d 2), .int (d 3), .ref qr, .int r_1, .int (d 5)])), (qr, .inl (cr, n, .inl (upd rr (d 1).toNatClampNeg v)))] H := hP
        have hD : va_D A [(qs, .inr (2, [.ref qc, .ref qg, .int (d 0), .int (d 1), .int (d 2), .int (d 3), .ref qr, .int r_1, .int (d 5)])), (qr, .inl (cr, n, .inl (upd rr (d 1).toNatClampNeg v)))] := hD
        refine lv_aload_n hx hb d_Si_keep_56 rfl (lv_at hl 0 rfl) ?_
        refine lv_dup hx hb d_Si_keep_57 rfl ?_
        refine va_get (D := D) (ci := 2) (v := .int (d 1)) (C := R_Si) (T := T_Si) (N := 9) hx hb hu in_Si hown hK hP 0 rfl rfl 3 (by decide) (hu _ hw_141) (fun _ h9 => h9) rfl d_Si_keep_58 ?_
        refine lv_iconst (v := 1) hx hb d_Si_keep_61 (by decide) ?_
        refine lv_iadd hx hb d_Si_keep_62 ?_
        refine va_put (D := D) (ci := 2) (v := .int ((d 1) + 1)) (ty := .int) (C := R_Si) (T := T_Si) (N := 9) hx hb hu in_Si t_Si t_Si_ok n_Si hown hK hP hD hS 0 rfl rfl 3 (by decide) (hu _ hw_141) (fun _ h9 => h9) rfl (by decide +kernel) rfl rfl (Nat.le_of_ble_eq_true rfl) d_Si_keep_63 (fun H locs hP hD hS => ?_)
        have hP : va_P D vwCl [(qs, .inr (2, [.ref qc, .ref qg, .int (d 0), .int ((d 1) + 1), .int (d 2), .int (d 3), .ref qr, .int r_1, .int (d 5)])), (qr, .inl (cr, n, .inl (upd rr (d 1).toNatClampNeg v)))] H := hP
        have hD : va_D A [(qs, .inr (2, [.ref qc, .ref qg, .int (d 0), .int ((d 1) + 1), .int (d 2), .int (d 3), .ref qr, .int r_1, .int (d 5)])), (qr, .inl (cr, n, .inl (upd rr (d 1).toNatClampNeg v)))] := hD
        refine lv_aload_n hx hb d_Si_keep_66 rfl (lv_at hl 0 rfl) ?_
        refine lv_iload_n hx hb d_Si_keep_67 rfl (lv_at hl 2 rfl) ?_
        refine va_put (D := D) (ci := 2) (v := .int z) (ty := .boolean) (C := R_Si) (T := T_Si) (N := 9) hx hb hu in_Si t_Si t_Si_ok n_Si hown hK hP hD hS 0 rfl rfl 5 (by decide) (hu _ hw_145) (fun _ h9 => h9) rfl (by decide +kernel) (vq_nz hz) (vq_fz hz) (Nat.le_of_ble_eq_true rfl) d_Si_keep_68 (fun H locs hP hD hS => ?_)
        have hP : va_P D vwCl [(qs, .inr (2, [.ref qc, .ref qg, .int (d 0), .int ((d 1) + 1), .int (d 2), .int z, .ref qr, .int r_1, .int (d 5)])), (qr, .inl (cr, n, .inl (upd rr (d 1).toNatClampNeg v)))] H := hP
        have hD : va_D A [(qs, .inr (2, [.ref qc, .ref qg, .int (d 0), .int ((d 1) + 1), .int (d 2), .int z, .ref qr, .int r_1, .int (d 5)])), (qr, .inl (cr, n, .inl (upd rr (d 1).toNatClampNeg v)))] := hD
        have hP9 : va_P D vwCl ([(qs, k_Si qc qg qr (mk6 (d 0) ((d 1) + 1) (d 2) z r_1 (d 5))), (qr, .inl (cr, n, .inl (upd rr (d 1).toNatClampNeg v)))]) H := hP.sub [0, 1] rfl
        have hD9 : va_D A ([(qs, k_Si qc qg qr (mk6 (d 0) ((d 1) + 1) (d 2) z r_1 (d 5))), (qr, .inl (cr, n, .inl (upd rr (d 1).toNatClampNeg v)))]) := hD.sub [0, 1] (by decide) rfl
        exact W.vret hx hb hr (fun t ht hW => ⟨⟨((mk6 (d 0) ((d 1) + 1) (d 2) z r_1 (d 5)), upd rr (d 1).toNatClampNeg v), rfl, by rw [f_keep, e_1, f_keep_2, if_neg c_3, if_neg c_4, if_neg c_5], by rw [ht]; exact hP9, va_K.moved hW.alike (hK.sub [0] rfl), hD9⟩, hS.F ht⟩) hS.2.2 d_Si_keep_71
  · refine lv_aload_n hx hb d_Si_keep_19 rfl (lv_at hl 0 rfl) ?_
    refine lv_aload_n hx hb d_Si_keep_20 rfl (lv_at hl 0 rfl) ?_
    refine va_get (D := D) (ci := 2) (v := .int r_1) (C := R_Si) (T := T_Si) (N := 9) hx hb hu in_Si hown hK hP 0 rfl rfl 7 (by decide) (hu _ hw_148) (fun _ h9 => h9) rfl d_Si_keep_21 ?_
    refine va_put (D := D) (ci := 2) (v := .int r_1) (ty := .int) (C := R_Si) (T := T_Si) (N := 9) hx hb hu in_Si t_Si t_Si_ok n_Si hown hK hP hD hS 0 rfl rfl 8 (by decide) (hu _ hw_149) (fun _ h9 => h9) rfl (by decide +kernel) rfl rfl (Nat.le_of_ble_eq_true rfl) d_Si_keep_24 (fun H locs hP hD hS => ?_)
    have hP : va_P D vwCl [(qs, .inr (2, [.ref qc, .ref qg, .int (d 0), .int (d 1), .int (d 2), .int (d 3), .ref qr, .int r_1, .int r_1])), (qr, .inl (cr, n, .inl rr))] H := hP
    have hD : va_D A [(qs, .inr (2, [.ref qc, .ref qg, .int (d 0), .int (d 1), .int (d 2), .int (d 3), .ref qr, .int r_1, .int r_1])), (qr, .inl (cr, n, .inl rr))] := hD
    refine lv_aload_n hx hb d_Si_keep_27 rfl (lv_at hl 0 rfl) ?_
    refine va_get (D := D) (ci := 2) (v := .int (d 1)) (C := R_Si) (T := T_Si) (N := 9) hx hb hu in_Si hown hK hP 0 rfl rfl 3 (by decide) (hu _ hw_141) (fun _ h9 => h9) rfl d_Si_keep_28 ?_
    refine lv_if_lt (tgt := 56) hx hb d_Si_keep_31 (by decide) (fun c_6 => ?_) (fun c_6 => ?_)
    · refine lv_aload_n hx hb d_Si_keep_56 rfl (lv_at hl 0 rfl) ?_
      refine lv_dup hx hb d_Si_keep_57 rfl ?_
      refine va_get (D := D) (ci := 2) (v := .int (d 1)) (C := R_Si) (T := T_Si) (N := 9) hx hb hu in_Si hown hK hP 0 rfl rfl 3 (by decide) (hu _ hw_141) (fun _ h9 => h9) rfl d_Si_keep_58 ?_
      refine lv_iconst (v := 1) hx hb d_Si_keep_61 (by decide) ?_
      refine lv_iadd hx hb d_Si_keep_62 ?_
      refine va_put (D := D) (ci := 2) (v := .int ((d 1) + 1)) (ty := .int) (C := R_Si) (T := T_Si) (N := 9) hx hb hu in_Si t_Si t_Si_ok n_Si hown hK hP hD hS 0 rfl rfl 3 (by decide) (hu _ hw_141) (fun _ h9 => h9) rfl (by decide +kernel) rfl rfl (Nat.le_of_ble_eq_true rfl) d_Si_keep_63 (fun H locs hP hD hS => ?_)
      have hP : va_P D vwCl [(qs, .inr (2, [.ref qc, .ref qg, .int (d 0), .int ((d 1) + 1), .int (d 2), .int (d 3), .ref qr, .int r_1, .int r_1])), (qr, .inl (cr, n, .inl rr))] H := hP
      have hD : va_D A [(qs, .inr (2, [.ref qc, .ref qg, .int (d 0), .int ((d 1) + 1), .int (d 2), .int (d 3), .ref qr, .int r_1, .int r_1])), (qr, .inl (cr, n, .inl rr))] := hD
      refine lv_aload_n hx hb d_Si_keep_66 rfl (lv_at hl 0 rfl) ?_
      refine lv_iload_n hx hb d_Si_keep_67 rfl (lv_at hl 2 rfl) ?_
      refine va_put (D := D) (ci := 2) (v := .int z) (ty := .boolean) (C := R_Si) (T := T_Si) (N := 9) hx hb hu in_Si t_Si t_Si_ok n_Si hown hK hP hD hS 0 rfl rfl 5 (by decide) (hu _ hw_145) (fun _ h9 => h9) rfl (by decide +kernel) (vq_nz hz) (vq_fz hz) (Nat.le_of_ble_eq_true rfl) d_Si_keep_68 (fun H locs hP hD hS => ?_)
      have hP : va_P D vwCl [(qs, .inr (2, [.ref qc, .ref qg, .int (d 0), .int ((d 1) + 1), .int (d 2), .int z, .ref qr, .int r_1, .int r_1])), (qr, .inl (cr, n, .inl rr))] H := hP
      have hD : va_D A [(qs, .inr (2, [.ref qc, .ref qg, .int (d 0), .int ((d 1) + 1), .int (d 2), .int z, .ref qr, .int r_1, .int r_1])), (qr, .inl (cr, n, .inl rr))] := hD
      have hP9 : va_P D vwCl ([(qs, k_Si qc qg qr (mk6 (d 0) ((d 1) + 1) (d 2) z r_1 r_1)), (qr, .inl (cr, n, .inl rr))]) H := hP.sub [0, 1] rfl
      have hD9 : va_D A ([(qs, k_Si qc qg qr (mk6 (d 0) ((d 1) + 1) (d 2) z r_1 r_1)), (qr, .inl (cr, n, .inl rr))]) := hD.sub [0, 1] (by decide) rfl
      exact W.vret hx hb hr (fun t ht hW => ⟨⟨((mk6 (d 0) ((d 1) + 1) (d 2) z r_1 r_1), rr), rfl, by rw [f_keep, e_1, f_keep_2, if_pos c_3, if_pos c_6], by rw [ht]; exact hP9, va_K.moved hW.alike (hK.sub [0] rfl), hD9⟩, hS.F ht⟩) hS.2.2 d_Si_keep_71
    · refine lv_aload_n hx hb d_Si_keep_34 rfl (lv_at hl 0 rfl) ?_
      refine va_get (D := D) (ci := 2) (v := .int (d 1)) (C := R_Si) (T := T_Si) (N := 9) hx hb hu in_Si hown hK hP 0 rfl rfl 3 (by decide) (hu _ hw_141) (fun _ h9 => h9) rfl d_Si_keep_35 ?_
      refine lv_aload_n hx hb d_Si_keep_38 rfl (lv_at hl 0 rfl) ?_
      refine va_get (D := D) (ci := 2) (v := .ref qr) (C := R_Si) (T := T_Si) (N := 9) hx hb hu in_Si hown hK hP 0 rfl rfl 6 (by decide) (hu _ hw_147) (fun _ h9 => h9) rfl d_Si_keep_39 ?_
      refine va_alen (v := nI n) hx hb hK hP 1 0 rfl rfl rfl d_Si_keep_42 ?_
      refine lv_icmp_ge (tgt := 56) hx hb d_Si_keep_43 (by decide) (fun c_7 => ?_) (fun c_7 => ?_)
      · refine lv_aload_n hx hb d_Si_keep_56 rfl (lv_at hl 0 rfl) ?_
        refine lv_dup hx hb d_Si_keep_57 rfl ?_
        refine va_get (D := D) (ci := 2) (v := .int (d 1)) (C := R_Si) (T := T_Si) (N := 9) hx hb hu in_Si hown hK hP 0 rfl rfl 3 (by decide) (hu _ hw_141) (fun _ h9 => h9) rfl d_Si_keep_58 ?_
        refine lv_iconst (v := 1) hx hb d_Si_keep_61 (by decide) ?_
        refine lv_iadd hx hb d_Si_keep_62 ?_
        refine va_put (D := D) (ci := 2) (v := .int ((d 1) + 1)) (ty := .int) (C := R_Si) (T := T_Si) (N := 9) hx hb hu in_Si t_Si t_Si_ok n_Si hown hK hP hD hS 0 rfl rfl 3 (by decide) (hu _ hw_141) (fun _ h9 => h9) rfl (by decide +kernel) rfl rfl (Nat.le_of_ble_eq_true rfl) d_Si_keep_63 (fun H locs hP hD hS => ?_)
        have hP : va_P D vwCl [(qs, .inr (2, [.ref qc, .ref qg, .int (d 0), .int ((d 1) + 1), .int (d 2), .int (d 3), .ref qr, .int r_1, .int r_1])), (qr, .inl (cr, n, .inl rr))] H := hP
        have hD : va_D A [(qs, .inr (2, [.ref qc, .ref qg, .int (d 0), .int ((d 1) + 1), .int (d 2), .int (d 3), .ref qr, .int r_1, .int r_1])), (qr, .inl (cr, n, .inl rr))] := hD
        refine lv_aload_n hx hb d_Si_keep_66 rfl (lv_at hl 0 rfl) ?_
        refine lv_iload_n hx hb d_Si_keep_67 rfl (lv_at hl 2 rfl) ?_
        refine va_put (D := D) (ci := 2) (v := .int z) (ty := .boolean) (C := R_Si) (T := T_Si) (N := 9) hx hb hu in_Si t_Si t_Si_ok n_Si hown hK hP hD hS 0 rfl rfl 5 (by decide) (hu _ hw_145) (fun _ h9 => h9) rfl (by decide +kernel) (vq_nz hz) (vq_fz hz) (Nat.le_of_ble_eq_true rfl) d_Si_keep_68 (fun H locs hP hD hS => ?_)
        have hP : va_P D vwCl [(qs, .inr (2, [.ref qc, .ref qg, .int (d 0), .int ((d 1) + 1), .int (d 2), .int z, .ref qr, .int r_1, .int r_1])), (qr, .inl (cr, n, .inl rr))] H := hP
        have hD : va_D A [(qs, .inr (2, [.ref qc, .ref qg, .int (d 0), .int ((d 1) + 1), .int (d 2), .int z, .ref qr, .int r_1, .int r_1])), (qr, .inl (cr, n, .inl rr))] := hD
        have hP9 : va_P D vwCl ([(qs, k_Si qc qg qr (mk6 (d 0) ((d 1) + 1) (d 2) z r_1 r_1)), (qr, .inl (cr, n, .inl rr))]) H := hP.sub [0, 1] rfl
        have hD9 : va_D A ([(qs, k_Si qc qg qr (mk6 (d 0) ((d 1) + 1) (d 2) z r_1 r_1)), (qr, .inl (cr, n, .inl rr))]) := hD.sub [0, 1] (by decide) rfl
        exact W.vret hx hb hr (fun t ht hW => ⟨⟨((mk6 (d 0) ((d 1) + 1) (d 2) z r_1 r_1), rr), rfl, by rw [f_keep, e_1, f_keep_2, if_pos c_3, if_neg c_6, if_pos c_7], by rw [ht]; exact hP9, va_K.moved hW.alike (hK.sub [0] rfl), hD9⟩, hS.F ht⟩) hS.2.2 d_Si_keep_71
      · refine lv_aload_n hx hb d_Si_keep_46 rfl (lv_at hl 0 rfl) ?_
        refine va_get (D := D) (ci := 2) (v := .ref qr) (C := R_Si) (T := T_Si) (N := 9) hx hb hu in_Si hown hK hP 0 rfl rfl 6 (by decide) (hu _ hw_147) (fun _ h9 => h9) rfl d_Si_keep_47 ?_
        refine lv_aload_n hx hb d_Si_keep_50 rfl (lv_at hl 0 rfl) ?_
        refine va_get (D := D) (ci := 2) (v := .int (d 1)) (C := R_Si) (T := T_Si) (N := 9) hx hb hu in_Si hown hK hP 0 rfl rfl 3 (by decide) (hu _ hw_141) (fun _ h9 => h9) rfl d_Si_keep_51 ?_
        refine lv_iload_n hx hb d_Si_keep_54 rfl (lv_at hl 1 rfl) ?_
        refine va_iast hx hb hK hP hD hS 1 0 rfl rfl (by first | exact vq_in hn (by assumption) (by assumption) | exact vq_in2 hn (by assumption) (by assumption)) d_Si_keep_55 (fun H locs hP hD hS => ?_)
        have hP : va_P D vwCl [(qs, .inr (2, [.ref qc, .ref qg, .int (d 0), .int (d 1), .int (d 2), .int (d 3), .ref qr, .int r_1, .int r_1])), (qr, .inl (cr, n, .inl (upd rr (d 1).toNatClampNeg v)))] H := hP
        have hD : va_D A [(qs, .inr (2, [.ref qc, .ref qg, .int (d 0), .int (d 1), .int (d 2), .int (d 3), .ref qr, .int r_1, .int r_1])), (qr, .inl (cr, n, .inl (upd rr (d 1).toNatClampNeg v)))] := hD
        refine lv_aload_n hx hb d_Si_keep_56 rfl (lv_at hl 0 rfl) ?_
        refine lv_dup hx hb d_Si_keep_57 rfl ?_
        refine va_get (D := D) (ci := 2) (v := .int (d 1)) (C := R_Si) (T := T_Si) (N := 9) hx hb hu in_Si hown hK hP 0 rfl rfl 3 (by decide) (hu _ hw_141) (fun _ h9 => h9) rfl d_Si_keep_58 ?_
        refine lv_iconst (v := 1) hx hb d_Si_keep_61 (by decide) ?_
        refine lv_iadd hx hb d_Si_keep_62 ?_
        refine va_put (D := D) (ci := 2) (v := .int ((d 1) + 1)) (ty := .int) (C := R_Si) (T := T_Si) (N := 9) hx hb hu in_Si t_Si t_Si_ok n_Si hown hK hP hD hS 0 rfl rfl 3 (by decide) (hu _ hw_141) (fun _ h9 => h9) rfl (by decide +kernel) rfl rfl (Nat.le_of_ble_eq_true rfl) d_Si_keep_63 (fun H locs hP hD hS => ?_)
        have hP : va_P D vwCl [(qs, .inr (2, [.ref qc, .ref qg, .int (d 0), .int ((d 1) + 1), .int (d 2), .int (d 3), .ref qr, .int r_1, .int r_1])), (qr, .inl (cr, n, .inl (upd rr (d 1).toNatClampNeg v)))] H := hP
        have hD : va_D A [(qs, .inr (2, [.ref qc, .ref qg, .int (d 0), .int ((d 1) + 1), .int (d 2), .int (d 3), .ref qr, .int r_1, .int r_1])), (qr, .inl (cr, n, .inl (upd rr (d 1).toNatClampNeg v)))] := hD
        refine lv_aload_n hx hb d_Si_keep_66 rfl (lv_at hl 0 rfl) ?_
        refine lv_iload_n hx hb d_Si_keep_67 rfl (lv_at hl 2 rfl) ?_
        refine va_put (D := D) (ci := 2) (v := .int z) (ty := .boolean) (C := R_Si) (T := T_Si) (N := 9) hx hb hu in_Si t_Si t_Si_ok n_Si hown hK hP hD hS 0 rfl rfl 5 (by decide) (hu _ hw_145) (fun _ h9 => h9) rfl (by decide +kernel) (vq_nz hz) (vq_fz hz) (Nat.le_of_ble_eq_true rfl) d_Si_keep_68 (fun H locs hP hD hS => ?_)
        have hP : va_P D vwCl [(qs, .inr (2, [.ref qc, .ref qg, .int (d 0), .int ((d 1) + 1), .int (d 2), .int z, .ref qr, .int r_1, .int r_1])), (qr, .inl (cr, n, .inl (upd rr (d 1).toNatClampNeg v)))] H := hP
        have hD : va_D A [(qs, .inr (2, [.ref qc, .ref qg, .int (d 0), .int ((d 1) + 1), .int (d 2), .int z, .ref qr, .int r_1, .int r_1])), (qr, .inl (cr, n, .inl (upd rr (d 1).toNatClampNeg v)))] := hD
        have hP9 : va_P D vwCl ([(qs, k_Si qc qg qr (mk6 (d 0) ((d 1) + 1) (d 2) z r_1 r_1)), (qr, .inl (cr, n, .inl (upd rr (d 1).toNatClampNeg v)))]) H := hP.sub [0, 1] rfl
        have hD9 : va_D A ([(qs, k_Si qc qg qr (mk6 (d 0) ((d 1) + 1) (d 2) z r_1 r_1)), (qr, .inl (cr, n, .inl (upd rr (d 1).toNatClampNeg v)))]) := hD.sub [0, 1] (by decide) rfl
        exact W.vret hx hb hr (fun t ht hW => ⟨⟨((mk6 (d 0) ((d 1) + 1) (d 2) z r_1 r_1), upd rr (d 1).toNatClampNeg v), rfl, by rw [f_keep, e_1, f_keep_2, if_pos c_3, if_neg c_6, if_neg c_7], by rw [ht]; exact hP9, va_K.moved hW.alike (hK.sub [0] rfl), hD9⟩, hS.F ht⟩) hS.2.2 d_Si_keep_71
def f_isFlatAround_8 (g : Nat → Int32) (d : Nat → Int32) (o : Nat → Int32) (r_1 : Int32) (r_4 : Int32) (r_7 : Int32) : Int32 :=
  if r_7 = 0 then 0
  else 1
def f_isFlatAround_5 (g : Nat → Int32) (d : Nat → Int32) (o : Nat → Int32) (r_1 : Int32) (r_4 : Int32) : Int32 :=
  if r_4 = 0 then 0
  else f_isFlatAround_8 g d o r_1 r_4 (f_isFlat g ((o 2) - (o 0)))
def f_isFlatAround_2 (g : Nat → Int32) (d : Nat → Int32) (o : Nat → Int32) (r_1 : Int32) : Int32 :=
  if r_1 = 0 then 0
  else f_isFlatAround_5 g d o r_1 (f_isFlat g ((o 1) - (o 2)))
def f_isFlatAround (g : Nat → Int32) (d : Nat → Int32) (o : Nat → Int32) : Int32 := f_isFlatAround_2 g d o (f_isFlat g ((o 3) - (o 1)))
set_option maxHeartbeats 4000000 in
set_option maxRecDepth 100000 in
theorem c_isFlatAround (l : Launch) (D : va_G) (sa : Nat → Nat) (sz : Nat) (qs : Nat) (qo : Nat) (qc : Nat) (qg : Nat) (qr : Nat) (g : Nat → Int32) (d : Nat → Int32) (o : Nat → Int32)  : Met l y_Si_isFlatAround w_Si_isFlatAround ({ frames := 2, cells := 0, slots := 0, locals := 34 }) (va_Pc [.ref qs, .ref qo] (vq_pre D sa [(qs, k_Si qc qg qr d), (qo, k_Ou o), (qg, k_Sc g)] [] sz)) (va_Qi (fun (r0 : Int32) (u : Unit) => f_isFlatAround g d o = r0) (vq_B D (va_A [(qs, k_Si qc qg qr d), (qo, k_Ou o), (qg, k_Sc g)] sz) [] (fun (u : Unit) => [(qs, k_Si qc qg qr d), (qo, k_Ou o), (qg, k_Sc g)])) (va_A [(qs, k_Si qc qg qr d), (qo, k_Ou o), (qg, k_Sc g)] sz)) 0 0 (va_A [(qs, k_Si qc qg qr d), (qo, k_Ou o), (qg, k_Sc g)] sz) := by
  refine Met.ofW (cc := b_Si_isFlatAround) (maxL := 2) (ret := (some .boolean)) (by decide) rfl ?_
  intro p e s m args below meth c s₁ B hml hv
  obtain ⟨rfl, hsz, hP, hK, hD0, hE⟩ := hv
  have hx := B.exec
  have hb := B.bytes
  have hr := B.returns
  have hts := atoms_spec (ws := w_Si_isFlatAround) B.pre
  have hu : ∀ w9 ∈ vU, Cond.before w9 ([.ref qs, .ref qo]).toArray s = true := fun w9 h => hts w9 (List.mem_cons_of_mem _ h)
  have hown : s.vm.findClass R_Si = some m.cls := findClass_of_methodNamed B.named
  have hlocks := B.notSynchronized
  subst hsz
  have hD := hD0.self (sz := s.heap.size)
  generalize hAe : va_A [(qs, k_Si qc qg qr d), (qo, k_Ou o), (qg, k_Sc g)] s.heap.size = A at hD ⊢
  have hA : ∀ q : Nat, s.heap.size ≤ q → A q := fun q h => by rw [← hAe]; exact Or.inr h
  have hS : va_S A s.heap s.heap [] := va_S.rf
  have hP : va_P D vwCl [(qs, k_Si qc qg qr d), (qo, k_Ou o), (qg, k_Sc g)] s.heap := hP
  have hl := lv_entry ([.ref qs, .ref qo]) (n := 2) (Nat.le_of_ble_eq_true rfl)
  rw [lg_entry_eq]
  generalize (lg_sl ([.ref qs, .ref qo]) ++ List.replicate (2 - (lg_sl ([.ref qs, .ref qo])).length) Slot.unset).toArray = ls at hl ⊢
  have hl : lv_has ls 2 [(0, .ref qs), (1, .ref qo)] := hl
  refine lv_aload_n hx hb d_Si_isFlatAround_0 rfl (lv_at hl 0 rfl) ?_
  refine va_get (D := D) (ci := 2) (v := .ref qg) (C := R_Si) (T := T_Si) (N := 9) hx hb hu in_Si hown hK hP 0 rfl rfl 1 (by decide) (hu _ hw_139) (fun _ h9 => h9) rfl d_Si_isFlatAround_1 ?_
  refine lv_aload_n hx hb d_Si_isFlatAround_4 rfl (lv_at hl 1 rfl) ?_
  refine va_get (D := D) (ci := 3) (v := .int (o 3)) (C := R_Ou) (T := T_Ou) (N := 9) hx hb hu in_Ou hown hK hP 1 rfl rfl 3 (by decide) (hu _ hw_173) (fun _ h9 => h9) rfl d_Si_isFlatAround_5 ?_
  refine lv_aload_n hx hb d_Si_isFlatAround_8 rfl (lv_at hl 1 rfl) ?_
  refine va_get (D := D) (ci := 3) (v := .int (o 1)) (C := R_Ou) (T := T_Ou) (N := 9) hx hb hu in_Ou hown hK hP 1 rfl rfl 1 (by decide) (hu _ hw_168) (fun _ h9 => h9) rfl d_Si_isFlatAround_9 ?_
  refine lv_isub hx hb d_Si_isFlatAround_12 ?_
  refine vq_i (wr := [(qs, k_Si qc qg qr d), (qo, k_Ou o)]) (va_runV (As := [.int ((o 3) - (o 1))]) (rest := []) ⟨hx, hb, hml, hown, hts⟩ (c_isFlat l D sa s.heap.size qg g ((o 3) - (o 1))) (cwV 1 hts (vg_V (fun w h => List.mem_cons_of_mem _ h) hw_328 hw_329 hw_330 hw_34 hw_331) rfl rfl rfl (by decide +kernel) ⟨Nat.le_of_ble_eq_true rfl, Nat.le_of_ble_eq_true rfl⟩) (vq_pV hE hK hP hD [2] [] rfl (by decide) rfl 1 2 rfl rfl rfl) rfl rfl hl.1 rfl (lv_room (Nat.le_of_ble_eq_true rfl)) d_Si_isFlatAround_13 ⟨Nat.le_of_ble_eq_true rfl, Nat.le_of_ble_eq_true rfl⟩) hP hD hS hA [2] [0, 1] rfl rfl (by decide) (by decide) (fun r_1 u_1 H locs e_1 hP hD hS => ?_)
  have hP : va_P D vwCl [(qs, k_Si qc qg qr d), (qo, k_Ou o), (qg, k_Sc g)] H := hP
  have hD : va_D A [(qs, k_Si qc qg qr d), (qo, k_Ou o), (qg, k_Sc g)] := hD
  refine lv_if_eq (tgt := 61) hx hb d_Si_isFlatAround_16 (by decide) (fun c_3 => ?_) (fun c_3 => ?_)
  · refine lv_iconst (v := 0) hx hb d_Si_isFlatAround_61 (by decide) ?_
    have hP9 : va_P D vwCl ([(qs, k_Si qc qg qr d), (qo, k_Ou o), (qg, k_Sc g)]) H := hP.sub [0, 1, 2] rfl
    have hD9 : va_D A ([(qs, k_Si qc qg qr d), (qo, k_Ou o), (qg, k_Sc g)]) := hD.sub [0, 1, 2] (by decide) rfl
    exact W.zret (v := 0) hx hb hr rfl (fun t ht hW => ⟨⟨0, (), rfl, by rw [f_isFlatAround, e_1, f_isFlatAround_2, if_pos c_3], by rw [ht]; exact hP9, va_K.moved hW.alike (hK.sub [] rfl), hD9⟩, hS.F ht⟩) hS.2.2 d_Si_isFlatAround_62
  · refine lv_aload_n hx hb d_Si_isFlatAround_19 rfl (lv_at hl 0 rfl) ?_
    refine va_get (D := D) (ci := 2) (v := .ref qg) (C := R_Si) (T := T_Si) (N := 9) hx hb hu in_Si hown hK hP 0 rfl rfl 1 (by decide) (hu _ hw_139) (fun _ h9 => h9) rfl d_Si_isFlatAround_20 ?_
    refine lv_aload_n hx hb d_Si_isFlatAround_23 rfl (lv_at hl 1 rfl) ?_
    refine va_get (D := D) (ci := 3) (v := .int (o 1)) (C := R_Ou) (T := T_Ou) (N := 9) hx hb hu in_Ou hown hK hP 1 rfl rfl 1 (by decide) (hu _ hw_168) (fun _ h9 => h9) rfl d_Si_isFlatAround_24 ?_
    refine lv_aload_n hx hb d_Si_isFlatAround_27 rfl (lv_at hl 1 rfl) ?_
    refine va_get (D := D) (ci := 3) (v := .int (o 2)) (C := R_Ou) (T := T_Ou) (N := 9) hx hb hu in_Ou hown hK hP 1 rfl rfl 2 (by decide) (hu _ hw_170) (fun _ h9 => h9) rfl d_Si_isFlatAround_28 ?_
    refine lv_isub hx hb d_Si_isFlatAround_31 ?_
    refine vq_i (wr := [(qs, k_Si qc qg qr d), (qo, k_Ou o)]) (va_runV (As := [.int ((o 1) - (o 2))]) (rest := []) ⟨hx, hb, hml, hown, hts⟩ (c_isFlat l D sa H.size qg g ((o 1) - (o 2))) (cwV 1 hts (vg_V (fun w h => List.mem_cons_of_mem _ h) hw_328 hw_329 hw_330 hw_34 hw_331) rfl rfl rfl (by decide +kernel) ⟨Nat.le_of_ble_eq_true rfl, Nat.le_of_ble_eq_true rfl⟩) (vq_pV hE hK hP hD [2] [] rfl (by decide) rfl 1 2 rfl rfl rfl) rfl rfl hl.1 rfl (lv_room (Nat.le_of_ble_eq_true rfl)) d_Si_isFlatAround_32 ⟨Nat.le_of_ble_eq_true rfl, Nat.le_of_ble_eq_true rfl⟩) hP hD hS hA [2] [0, 1] rfl rfl (by decide) (by decide) (fun r_4 u_4 H locs e_4 hP hD hS => ?_)
    have hP : va_P D vwCl [(qs, k_Si qc qg qr d), (qo, k_Ou o), (qg, k_Sc g)] H := hP
    have hD : va_D A [(qs, k_Si qc qg qr d), (qo, k_Ou o), (qg, k_Sc g)] := hD
    refine lv_if_eq (tgt := 61) hx hb d_Si_isFlatAround_35 (by decide) (fun c_6 => ?_) (fun c_6 => ?_)
    · refine lv_iconst (v := 0) hx hb d_Si_isFlatAround_61 (by decide) ?_
      have hP9 : va_P D vwCl ([(qs, k_Si qc qg qr d), (qo, k_Ou o), (qg, k_Sc g)]) H := hP.sub [0, 1, 2] rfl
      have hD9 : va_D A ([(qs, k_Si qc qg qr d), (qo, k_Ou o), (qg, k_Sc g)]) := hD.sub [0, 1, 2] (by decide) rfl
      exact W.zret (v := 0) hx hb hr rfl (fun t ht hW => ⟨⟨0, (), rfl, by rw [f_isFlatAround, e_1, f_isFlatAround_2, if_neg c_3, e_4, f_isFlatAround_5, if_pos c_6], by rw [ht]; exact hP9, va_K.moved hW.alike (hK.sub [] rfl), hD9⟩, hS.F ht⟩) hS.2.2 d_Si_isFlatAround_62
    · refine lv_aload_n hx hb d_Si_isFlatAround_38 rfl (lv_at hl 0 rfl) ?_
      refine va_get (D := D) (ci := 2) (v := .ref qg) (C := R_Si) (T := T_Si) (N := 9) hx hb hu in_Si hown hK hP 0 rfl rfl 1 (by decide) (hu _ hw_139) (fun _ h9 => h9) rfl d_Si_isFlatAround_39 ?_
      refine lv_aload_n hx hb d_Si_isFlatAround_42 rfl (lv_at hl 1 rfl) ?_
      refine va_get (D := D) (ci := 3) (v := .int (o 2)) (C := R_Ou) (T := T_Ou) (N := 9) hx hb hu in_Ou hown hK hP 1 rfl rfl 2 (by decide) (hu _ hw_170) (fun _ h9 => h9) rfl d_Si_isFlatAround_43 ?_
      refine lv_aload_n hx hb d_Si_isFlatAround_46 rfl (lv_at hl 1 rfl) ?_
      refine va_get (D := D) (ci := 3) (v := .int (o 0)) (C := R_Ou) (T := T_Ou) (N := 9) hx hb hu in_Ou hown hK hP 1 rfl rfl 0 (by decide) (hu _ hw_165) (fun _ h9 => h9) rfl d_Si_isFlatAround_47 ?_
      refine lv_isub hx hb d_Si_isFlatAround_50 ?_
      refine vq_i (wr := [(qs, k_Si qc qg qr d), (qo, k_Ou o)]) (va_runV (As := [.int ((o 2) - (o 0))]) (rest := []) ⟨hx, hb, hml, hown, hts⟩ (c_isFlat l D sa H.size qg g ((o 2) - (o 0))) (cwV 1 hts (vg_V (fun w h => List.mem_cons_of_mem _ h) hw_328 hw_329 hw_330 hw_34 hw_331) rfl rfl rfl (by decide +kernel) ⟨Nat.le_of_ble_eq_true rfl, Nat.le_of_ble_eq_true rfl⟩) (vq_pV hE hK hP hD [2] [] rfl (by decide) rfl 1 2 rfl rfl rfl) rfl rfl hl.1 rfl (lv_room (Nat.le_of_ble_eq_true rfl)) d_Si_isFlatAround_51 ⟨Nat.le_of_ble_eq_true rfl, Nat.le_of_ble_eq_true rfl⟩) hP hD hS hA [2] [0, 1] rfl rfl (by decide) (by decide) (fun r_7 u_7 H locs e_7 hP hD hS => ?_)
      have hP : va_P D vwCl [(qs, k_Si qc qg qr d), (qo, k_Ou o), (qg, k_Sc g)] H := hP
      have hD : va_D A [(qs, k_Si qc qg qr d), (qo, k_Ou o), (qg, k_Sc g)] := hD
      refine lv_if_eq (tgt := 61) hx hb d_Si_isFlatAround_54 (by decide) (fun c_9 => ?_) (fun c_9 => ?_)
      · refine lv_iconst (v := 0) hx hb d_Si_isFlatAround_61 (by decide) ?_
        have hP9 : va_P D vwCl ([(qs, k_Si qc qg qr d), (qo, k_Ou o), (qg, k_Sc g)]) H := hP.sub [0, 1, 2] rfl
        have hD9 : va_D A ([(qs, k_Si qc qg qr d), (qo, k_Ou o), (qg, k_Sc g)]) := hD.sub [0, 1, 2] (by decide) rfl
        exact W.zret (v := 0) hx hb hr rfl (fun t ht hW => ⟨⟨0, (), rfl, by rw [f_isFlatAround, e_1, f_isFlatAround_2, if_neg c_3, e_4, f_isFlatAround_5, if_neg c_6, e_7, f_isFlatAround_8, if_pos c_9], by rw [ht]; exact hP9, va_K.moved hW.alike (hK.sub [] rfl), hD9⟩, hS.F ht⟩) hS.2.2 d_Si_isFlatAround_62
      · refine lv_iconst (v := 1) hx hb d_Si_isFlatAround_57 (by decide) ?_
        refine lv_goto (tgt := 62) hx hb d_Si_isFlatAround_58 (by decide) ?_
        have hP9 : va_P D vwCl ([(qs, k_Si qc qg qr d), (qo, k_Ou o), (qg, k_Sc g)]) H := hP.sub [0, 1, 2] rfl
        have hD9 : va_D A ([(qs, k_Si qc qg qr d), (qo, k_Ou o), (qg, k_Sc g)]) := hD.sub [0, 1, 2] (by decide) rfl
        exact W.zret (v := 1) hx hb hr rfl (fun t ht hW => ⟨⟨1, (), rfl, by rw [f_isFlatAround, e_1, f_isFlatAround_2, if_neg c_3, e_4, f_isFlatAround_5, if_neg c_6, e_7, f_isFlatAround_8, if_neg c_9], by rw [ht]; exact hP9, va_K.moved hW.alike (hK.sub [] rfl), hD9⟩, hS.F ht⟩) hS.2.2 d_Si_isFlatAround_62
def f_lookAhead_8 (n : Nat) (g : Nat → Int32) (x : Nat → Nat → Int32) (d : Nat → Int32) (rr : Nat → Int32) (o : Nat → Int32) (r_1 : Int32) (o_7 : Nat → Int32) : Nat → Int32 := (mk9 (o_7 0) (o_7 1) (o_7 2) (o_7 3) (o_7 4) (o_7 5) (o_7 6) (o_7 7) (o_7 8))
def f_lookAhead_14 (n : Nat) (g : Nat → Int32) (x : Nat → Nat → Int32) (d : Nat → Int32) (rr : Nat → Int32) (o : Nat → Int32) (r_1 : Int32) (r_9 : Int32) (o_13 : Nat → Int32) : Nat → Int32 := (mk9 (o_13 0) (o_13 1) (o_13 2) (o_13 3) (o_13 4) (o_13 5) (o_13 6) (o_13 7) (o_13 8))
def f_lookAhead_17 (n : Nat) (g : Nat → Int32) (x : Nat → Nat → Int32) (d : Nat → Int32) (rr : Nat → Int32) (o : Nat → Int32) (r_1 : Int32) (r_9 : Int32) (o_16 : Nat → Int32) : Nat → Int32 := (mk9 (o_16 0) (o_16 1) (o_16 2) (o_16 3) (o_16 4) (o_16 5) (o_16 6) (o_16 7) (o_16 8))
def f_lookAhead_10 (n : Nat) (g : Nat → Int32) (x : Nat → Nat → Int32) (d : Nat → Int32) (rr : Nat → Int32) (o : Nat → Int32) (r_1 : Int32) (r_9 : Int32) : Nat → Int32 :=
  if r_9 = 0 then f_lookAhead_14 n g x d rr o r_1 r_9 (f_expectByGradients g x (mk9 r_1 r_1 (d 4) r_1 0 (o 5) (o 6) (o 7) (o 8)))
  else f_lookAhead_17 n g x d rr o r_1 r_9 (f_expectRun (mk9 r_1 r_1 (d 4) r_1 1 (o 5) (o 6) (o 7) (o 8)))
def f_lookAhead_23 (n : Nat) (g : Nat → Int32) (x : Nat → Nat → Int32) (d : Nat → Int32) (rr : Nat → Int32) (o : Nat → Int32) (r_1 : Int32) (r_18 : Int32) (o_22 : Nat → Int32) : Nat → Int32 := (mk9 (o_22 0) (o_22 1) (o_22 2) (o_22 3) (o_22 4) (o_22 5) (o_22 6) (o_22 7) (o_22 8))
def f_lookAhead_29 (n : Nat) (g : Nat → Int32) (x : Nat → Nat → Int32) (d : Nat → Int32) (rr : Nat → Int32) (o : Nat → Int32) (r_1 : Int32) (r_18 : Int32) (r_24 : Int32) (o_28 : Nat → Int32) : Nat → Int32 := (mk9 (o_28 0) (o_28 1) (o_28 2) (o_28 3) (o_28 4) (o_28 5) (o_28 6) (o_28 7) (o_28 8))
def f_lookAhead_32 (n : Nat) (g : Nat → Int32) (x : Nat → Nat → Int32) (d : Nat → Int32) (rr : Nat → Int32) (o : Nat → Int32) (r_1 : Int32) (r_18 : Int32) (r_24 : Int32) (o_31 : Nat → Int32) : Nat → Int32 := (mk9 (o_31 0) (o_31 1) (o_31 2) (o_31 3) (o_31 4) (o_31 5) (o_31 6) (o_31 7) (o_31 8))
def f_lookAhead_25 (n : Nat) (g : Nat → Int32) (x : Nat → Nat → Int32) (d : Nat → Int32) (rr : Nat → Int32) (o : Nat → Int32) (r_1 : Int32) (r_18 : Int32) (r_24 : Int32) : Nat → Int32 :=
  if r_24 = 0 then f_lookAhead_29 n g x d rr o r_1 r_18 r_24 (f_expectByGradients g x (mk9 r_1 r_1 (d 4) r_18 0 (o 5) (o 6) (o 7) (o 8)))
  else f_lookAhead_32 n g x d rr o r_1 r_18 r_24 (f_expectRun (mk9 r_1 r_1 (d 4) r_18 1 (o 5) (o 6) (o 7) (o 8)))
def f_lookAhead_19 (n : Nat) (g : Nat → Int32) (x : Nat → Nat → Int32) (d : Nat → Int32) (rr : Nat → Int32) (o : Nat → Int32) (r_1 : Int32) (r_18 : Int32) : Nat → Int32 :=
  if (d 3) = 0 then f_lookAhead_25 n g x d rr o r_1 r_18 (f_isFlatAround g d (mk9 r_1 r_1 (d 4) r_18 (o 4) (o 5) (o 6) (o 7) (o 8)))
  else f_lookAhead_23 n g x d rr o r_1 r_18 (f_expectRun (mk9 r_1 r_1 (d 4) r_18 1 (o 5) (o 6) (o 7) (o 8)))
def f_lookAhead_39 (n : Nat) (g : Nat → Int32) (x : Nat → Nat → Int32) (d : Nat → Int32) (rr : Nat → Int32) (o : Nat → Int32) (r_1 : Int32) (r_33 : Int32) (o_38 : Nat → Int32) : Nat → Int32 := (mk9 (o_38 0) (o_38 1) (o_38 2) (o_38 3) (o_38 4) (o_38 5) (o_38 6) (o_38 7) (o_38 8))
def f_lookAhead_45 (n : Nat) (g : Nat → Int32) (x : Nat → Nat → Int32) (d : Nat → Int32) (rr : Nat → Int32) (o : Nat → Int32) (r_1 : Int32) (r_33 : Int32) (r_40 : Int32) (o_44 : Nat → Int32) : Nat → Int32 := (mk9 (o_44 0) (o_44 1) (o_44 2) (o_44 3) (o_44 4) (o_44 5) (o_44 6) (o_44 7) (o_44 8))
def f_lookAhead_48 (n : Nat) (g : Nat → Int32) (x : Nat → Nat → Int32) (d : Nat → Int32) (rr : Nat → Int32) (o : Nat → Int32) (r_1 : Int32) (r_33 : Int32) (r_40 : Int32) (o_47 : Nat → Int32) : Nat → Int32 := (mk9 (o_47 0) (o_47 1) (o_47 2) (o_47 3) (o_47 4) (o_47 5) (o_47 6) (o_47 7) (o_47 8))
def f_lookAhead_41 (n : Nat) (g : Nat → Int32) (x : Nat → Nat → Int32) (d : Nat → Int32) (rr : Nat → Int32) (o : Nat → Int32) (r_1 : Int32) (r_33 : Int32) (r_40 : Int32) : Nat → Int32 :=
  if r_40 = 0 then f_lookAhead_45 n g x d rr o r_1 r_33 r_40 (f_expectByGradients g x (mk9 r_33 r_1 (d 4) r_1 0 (o 5) (o 6) (o 7) (o 8)))
  else f_lookAhead_48 n g x d rr o r_1 r_33 r_40 (f_expectRun (mk9 r_33 r_1 (d 4) r_1 1 (o 5) (o 6) (o 7) (o 8)))
def f_lookAhead_54 (n : Nat) (g : Nat → Int32) (x : Nat → Nat → Int32) (d : Nat → Int32) (rr : Nat → Int32) (o : Nat → Int32) (r_1 : Int32) (r_33 : Int32) (r_49 : Int32) (o_53 : Nat → Int32) : Nat → Int32 := (mk9 (o_53 0) (o_53 1) (o_53 2) (o_53 3) (o_53 4) (o_53 5) (o_53 6) (o_53 7) (o_53 8))
def f_lookAhead_60 (n : Nat) (g : Nat → Int32) (x : Nat → Nat → Int32) (d : Nat → Int32) (rr : Nat → Int32) (o : Nat → Int32) (r_1 : Int32) (r_33 : Int32) (r_49 : Int32) (r_55 : Int32) (o_59 : Nat → Int32) : Nat → Int32 := (mk9 (o_59 0) (o_59 1) (o_59 2) (o_59 3) (o_59 4) (o_59 5) (o_59 6) (o_59 7) (o_59 8))
def f_lookAhead_63 (n : Nat) (g : Nat → Int32) (x : Nat → Nat → Int32) (d : Nat → Int32) (rr : Nat → Int32) (o : Nat → Int32) (r_1 : Int32) (r_33 : Int32) (r_49 : Int32) (r_55 : Int32) (o_62 : Nat → Int32) : Nat → Int32 := (mk9 (o_62 0) (o_62 1) (o_62 2) (o_62 3) (o_62 4) (o_62 5) (o_62 6) (o_62 7) (o_62 8))
def f_lookAhead_56 (n : Nat) (g : Nat → Int32) (x : Nat → Nat → Int32) (d : Nat → Int32) (rr : Nat → Int32) (o : Nat → Int32) (r_1 : Int32) (r_33 : Int32) (r_49 : Int32) (r_55 : Int32) : Nat → Int32 :=
  if r_55 = 0 then f_lookAhead_60 n g x d rr o r_1 r_33 r_49 r_55 (f_expectByGradients g x (mk9 r_33 r_1 (d 4) r_49 0 (o 5) (o 6) (o 7) (o 8)))
  else f_lookAhead_63 n g x d rr o r_1 r_33 r_49 r_55 (f_expectRun (mk9 r_33 r_1 (d 4) r_49 1 (o 5) (o 6) (o 7) (o 8)))
def f_lookAhead_50 (n : Nat) (g : Nat → Int32) (x : Nat → Nat → Int32) (d : Nat → Int32) (rr : Nat → Int32) (o : Nat → Int32) (r_1 : Int32) (r_33 : Int32) (r_49 : Int32) : Nat → Int32 :=
  if (d 3) = 0 then f_lookAhead_56 n g x d rr o r_1 r_33 r_49 (f_isFlatAround g d (mk9 r_33 r_1 (d 4) r_49 (o 4) (o 5) (o 6) (o 7) (o 8)))
  else f_lookAhead_54 n g x d rr o r_1 r_33 r_49 (f_expectRun (mk9 r_33 r_1 (d 4) r_49 1 (o 5) (o 6) (o 7) (o 8)))
def f_lookAhead_34 (n : Nat) (g : Nat → Int32) (x : Nat → Nat → Int32) (d : Nat → Int32) (rr : Nat → Int32) (o : Nat → Int32) (r_1 : Int32) (r_33 : Int32) : Nat → Int32 :=
  if (d 0) ≤ ((d 1) + 1) then
    if (d 3) = 0 then f_lookAhead_41 n g x d rr o r_1 r_33 (f_isFlatAround g d (mk9 r_33 r_1 (d 4) r_1 (o 4) (o 5) (o 6) (o 7) (o 8)))
    else f_lookAhead_39 n g x d rr o r_1 r_33 (f_expectRun (mk9 r_33 r_1 (d 4) r_1 1 (o 5) (o 6) (o 7) (o 8)))
  else f_lookAhead_50 n g x d rr o r_1 r_33 (f_rowAt n d rr ((d 1) + 1))
def f_lookAhead_2 (n : Nat) (g : Nat → Int32) (x : Nat → Nat → Int32) (d : Nat → Int32) (rr : Nat → Int32) (o : Nat → Int32) (r_1 : Int32) : Nat → Int32 :=
  if (d 1) ≤ 0 then
    if (d 0) ≤ ((d 1) + 1) then
      if (d 3) = 0 then f_lookAhead_10 n g x d rr o r_1 (f_isFlatAround g d (mk9 r_1 r_1 (d 4) r_1 (o 4) (o 5) (o 6) (o 7) (o 8)))
      else f_lookAhead_8 n g x d rr o r_1 (f_expectRun (mk9 r_1 r_1 (d 4) r_1 1 (o 5) (o 6) (o 7) (o 8)))
    else f_lookAhead_19 n g x d rr o r_1 (f_rowAt n d rr ((d 1) + 1))
  else f_lookAhead_34 n g x d rr o r_1 (f_rowAt n d rr ((d 1) - 1))
def f_lookAhead (n : Nat) (g : Nat → Int32) (x : Nat → Nat → Int32) (d : Nat → Int32) (rr : Nat → Int32) (o : Nat → Int32) : Nat → Int32 := f_lookAhead_2 n g x d rr o (f_rowAt n d rr (d 1))
set_option maxHeartbeats 4000000 in
set_option maxRecDepth 100000 in
theorem c_lookAhead (l : Launch) (D : va_G) (sa : Nat → Nat) (sz : Nat) (qs : Nat) (qr : Nat) (cr : ClassId) (qc : Nat) (qg : Nat) (ad : Nat → Nat) (ca : Nat → ClassId) (qo : Nat) (n : Nat) (g : Nat → Int32) (x : Nat → Nat → Int32) (d : Nat → Int32) (rr : Nat → Int32) (o : Nat → Int32) (hn : n < 2 ^ 31) : Met l y_Si_lookAhead w_Si_lookAhead ({ frames := 4, cells := 0, slots := 0, locals := 80 }) (va_Pc [.ref qs, .ref qo] (vq_pre D sa [(qs, k_Si qc qg qr d), (qr, .inl (cr, n, .inl rr)), (qc, k_Co qg ad), (qg, k_Sc g), (ad 0, .inl (ca 0, 367, .inl (x 0))), (ad 1, .inl (ca 1, 367, .inl (x 1))), (ad 2, .inl (ca 2, 367, .inl (x 2))), (ad 3, .inl (ca 3, 367, .inl (x 3))), (qo, k_Ou o)] [(cr, .int), (ca 0, .int), (ca 1, .int), (ca 2, .int), (ca 3, .int)] sz)) (va_Qv (fun (u : (Nat → Int32)) => f_lookAhead n g x d rr o = u) (vq_B D (va_A [(qs, k_Si qc qg qr d), (qr, .inl (cr, n, .inl rr)), (qc, k_Co qg ad), (qg, k_Sc g), (ad 0, .inl (ca 0, 367, .inl (x 0))), (ad 1, .inl (ca 1, 367, .inl (x 1))), (ad 2, .inl (ca 2, 367, .inl (x 2))), (ad 3, .inl (ca 3, 367, .inl (x 3))), (qo, k_Ou o)] sz) [(cr, .int), (ca 0, .int), (ca 1, .int), (ca 2, .int), (ca 3, .int)] (fun (u : (Nat → Int32)) => [(qs, k_Si qc qg qr d), (qr, .inl (cr, n, .inl rr)), (qc, k_Co qg ad), (qg, k_Sc g), (ad 0, .inl (ca 0, 367, .inl (x 0))), (ad 1, .inl (ca 1, 367, .inl (x 1))), (ad 2, .inl (ca 2, 367, .inl (x 2))), (ad 3, .inl (ca 3, 367, .inl (x 3))), (qo, k_Ou u)])) (va_A [(qs, k_Si qc qg qr d), (qr, .inl (cr, n, .inl rr)), (qc, k_Co qg ad), (qg, k_Sc g), (ad 0, .inl (ca 0, 367, .inl (x 0))), (ad 1, .inl (ca 1, 367, .inl (x 1))), (ad 2, .inl (ca 2, 367, .inl (x 2))), (ad 3, .inl (ca 3, 367, .inl (x 3))), (qo, k_Ou o)] sz)) 0 0 (va_A [(qs, k_Si qc qg qr d), (qr, .inl (cr, n, .inl rr)), (qc, k_Co qg ad), (qg, k_Sc g), (ad 0, .inl (ca 0, 367, .inl (x 0))), (ad 1, .inl (ca 1, 367, .inl (x 1))), (ad 2, .inl (ca 2, 367, .inl (x 2))), (ad 3, .inl (ca 3, 367, .inl (x 3))), (qo, k_Ou o)] sz) := by
  refine Met.ofW (cc := b_Si_lookAhead) (maxL := 2) (ret := none) (by decide) rfl ?_
  intro p e s m args below meth c s₁ B hml hv
  obtain ⟨rfl, hsz, hP, hK, hD0, hE⟩ := hv
  have hx := B.exec
  have hb := B.bytes
  have hr := B.returns
  have hts := atoms_spec (ws := w_Si_lookAhead) B.pre
  have hu : ∀ w9 ∈ vU, Cond.before w9 ([.ref qs, .ref qo]).toArray s = true := fun w9 h => hts w9 (List.mem_cons_of_mem _ h)
  have hown : s.vm.findClass R_Si = some m.cls := findClass_of_methodNamed B.named
  have hlocks := B.notSynchronized
  subst hsz
  have hD := hD0.self (sz := s.heap.size)
  generalize hAe : va_A [(qs, k_Si qc qg qr d), (qr, .inl (cr, n, .inl rr)), (qc, k_Co qg ad), (qg, k_Sc g), (ad 0, .inl (ca 0, 367, .inl (x 0))), (ad 1, .inl (ca 1, 367, .inl (x 1))), (ad 2, .inl (ca 2, 367, .inl (x 2))), (ad 3, .inl (ca 3, 367, .inl (x 3))), (qo, k_Ou o)] s.heap.size = A at hD ⊢
  have hA : ∀ q : Nat, s.heap.size ≤ q → A q := fun q h => by rw [← hAe]; exact Or.inr h
  have hS : va_S A s.heap s.heap [] := va_S.rf
  have hP : va_P D vwCl [(qs, k_Si qc qg qr d), (qr, .inl (cr, n, .inl rr)), (qc, k_Co qg ad), (qg, k_Sc g), (ad 0, .inl (ca 0, 367, .inl (x 0))), (ad 1, .inl (ca 1, 367, .inl (x 1))), (ad 2, .inl (ca 2, 367, .inl (x 2))), (ad 3, .inl (ca 3, 367, .inl (x 3))), (qo, k_Ou o)] s.heap := hP
  have hl := lv_entry ([.ref qs, .ref qo]) (n := 2) (Nat.le_of_ble_eq_true rfl)
  rw [lg_entry_eq]
  generalize (lg_sl ([.ref qs, .ref qo]) ++ List.replicate (2 - (lg_sl ([.ref qs, .ref qo])).length) Slot.unset).toArray = ls at hl ⊢
  have hl : lv_has ls 2 [(0, .ref qs), (1, .ref qo)] := hl
  refine lv_aload_n hx hb d_Si_lookAhead_0 rfl (lv_at hl 1 rfl) ?_
  refine lv_aload_n hx hb d_Si_lookAhead_1 rfl (lv_at hl 0 rfl) ?_
  refine lv_aload_n hx hb d_Si_lookAhead_2 rfl (lv_at hl 0 rfl) ?_
  refine va_get (D := D) (ci := 2) (v := .int (d 1)) (C := R_Si) (T := T_Si) (N := 9) hx hb hu in_Si hown hK hP 0 rfl rfl 3 (by decide) (hu _ hw_141) (fun _ h9 => h9) rfl d_Si_lookAhead_3 ?_
  refine vq_i (wr := [(qc, k_Co qg ad), (qg, k_Sc g), (ad 0, .inl (ca 0, 367, .inl (x 0))), (ad 1, .inl (ca 1, 367, .inl (x 1))), (ad 2, .inl (ca 2, 367, .inl (x 2))), (ad 3, .inl (ca 3, 367, .inl (x 3))), (qo, k_Ou o)]) (va_runV (As := [.int (d 1)]) (rest := [.ref qo]) ⟨hx, hb, hml, hown, hts⟩ (c_rowAt l D sa s.heap.size qs qr cr qc qg n d rr (d 1) hn) (cwV 1 hts (vg_V (fun w h => List.mem_cons_of_mem _ h) hw_322 hw_323 hw_3 hw_35 hw_324) rfl rfl rfl (by decide +kernel) ⟨Nat.le_of_ble_eq_true rfl, Nat.le_of_ble_eq_true rfl⟩) (vq_pV hE hK hP hD [0, 1] [0] rfl (by decide) rfl 2 0 rfl rfl rfl) rfl rfl hl.1 rfl (lv_room (Nat.le_of_ble_eq_true rfl)) d_Si_lookAhead_6 ⟨Nat.le_of_ble_eq_true rfl, Nat.le_of_ble_eq_true rfl⟩) hP hD hS hA [0, 1] [2, 3, 4, 5, 6, 7, 8] rfl rfl (by decide) (by decide) (fun r_1 u_1 H locs e_1 hP hD hS => ?_)
  have hP : va_P D vwCl [(qc, k_Co qg ad), (qg, k_Sc g), (ad 0, .inl (ca 0, 367, .inl (x 0))), (ad 1, .inl (ca 1, 367, .inl (x 1))), (ad 2, .inl (ca 2, 367, .inl (x 2))), (ad 3, .inl (ca 3, 367, .inl (x 3))), (qo, k_Ou o), (qs, k_Si qc qg qr d), (qr, .inl (cr, n, .inl rr))] H := hP
  have hD : va_D A [(qc, k_Co qg ad), (qg, k_Sc g), (ad 0, .inl (ca 0, 367, .inl (x 0))), (ad 1, .inl (ca 1, 367, .inl (x 1))), (ad 2, .inl (ca 2, 367, .inl (x 2))), (ad 3, .inl (ca 3, 367, .inl (x 3))), (qo, k_Ou o), (qs, k_Si qc qg qr d), (qr, .inl (cr, n, .inl rr))] := hD
  refine va_put (D := D) (ci := 3) (v := .int r_1) (ty := .int) (C := R_Ou) (T := T_Ou) (N := 9) hx hb hu in_Ou t_Ou t_Ou_ok n_Ou hown hK hP hD hS 6 rfl rfl 1 (by decide) (hu _ hw_168) (fun _ h9 => h9) rfl (by decide +kernel) rfl rfl (Nat.le_of_ble_eq_true rfl) d_Si_lookAhead_9 (fun H locs hP hD hS => ?_)
  have hP : va_P D vwCl [(qc, k_Co qg ad), (qg, k_Sc g), (ad 0, .inl (ca 0, 367, .inl (x 0))), (ad 1, .inl (ca 1, 367, .inl (x 1))), (ad 2, .inl (ca 2, 367, .inl (x 2))), (ad 3, .inl (ca 3, 367, .inl (x 3))), (qo, .inr (3, [.int (o 0), .int r_1, .int (o 2), .int (o 3), .int (o 4), .int (o 5), .int (o 6), .int (o 7), .int (o 8)])), (qs, k_Si qc qg qr d), (qr, .inl (cr, n, .inl rr))] H := hP
  have hD : va_D A [(qc, k_Co qg ad), (qg, k_Sc g), (ad 0, .inl (ca 0, 367, .inl (x 0))), (ad 1, .inl (ca 1, 367, .inl (x 1))), (ad 2, .inl (ca 2, 367, .inl (x 2))), (ad 3, .inl (ca 3, 367, .inl (x 3))), (qo, .inr (3, [.int (o 0), .int r_1, .int (o 2), .int (o 3), .int (o 4), .int (o 5), .int (o 6), .int (o 7), .int (o 8)])), (qs, k_Si qc qg qr d), (qr, .inl (cr, n, .inl rr))] := hD
  refine lv_aload_n hx hb d_Si_lookAhead_12 rfl (lv_at hl 1 rfl) ?_
  refine lv_aload_n hx hb d_Si_lookAhead_13 rfl (lv_at hl 0 rfl) ?_
  refine va_get (D := D) (ci := 2) (v := .int (d 1)) (C := R_Si) (T := T_Si) (N := 9) hx hb hu in_Si hown hK hP 7 rfl rfl 3 (by decide) (hu _ hw_141) (fun _ h9 => h9) rfl d_Si_lookAhead_14 ?_
  refine lv_if_le (tgt := 33) hx hb d_Si_lookAhead_17 (by decide) (fun c_3 => ?_) (fun c_3 => ?_)
  · refine lv_aload_n hx hb d_Si_lookAhead_33 rfl (lv_at hl 1 rfl) ?_
    refine va_get (D := D) (ci := 3) (v := .int r_1) (C := R_Ou) (T := T_Ou) (N := 9) hx hb hu in_Ou hown hK hP 6 rfl rfl 1 (by decide) (hu _ hw_168) (fun _ h9 => h9) rfl d_Si_lookAhead_34 ?_
    refine va_put (D := D) (ci := 3) (v := .int r_1) (ty := .int) (C := R_Ou) (T := T_Ou) (N := 9) hx hb hu in_Ou t_Ou t_Ou_ok n_Ou hown hK hP hD hS 6 rfl rfl 0 (by decide) (hu _ hw_165) (fun _ h9 => h9) rfl (by decide +kernel) rfl rfl (Nat.le_of_ble_eq_true rfl) d_Si_lookAhead_37 (fun H locs hP hD hS => ?_)
    have hP : va_P D vwCl [(qc, k_Co qg ad), (qg, k_Sc g), (ad 0, .inl (ca 0, 367, .inl (x 0))), (ad 1, .inl (ca 1, 367, .inl (x 1))), (ad 2, .inl (ca 2, 367, .inl (x 2))), (ad 3, .inl (ca 3, 367, .inl (x 3))), (qo, .inr (3, [.int r_1, .int r_1, .int (o 2), .int (o 3), .int (o 4), .int (o 5), .int (o 6), .int (o 7), .int (o 8)])), (qs, k_Si qc qg qr d), (qr, .inl (cr, n, .inl rr))] H := hP
    have hD : va_D A [(qc, k_Co qg ad), (qg, k_Sc g), (ad 0, .inl (ca 0, 367, .inl (x 0))), (ad 1, .inl (ca 1, 367, .inl (x 1))), (ad 2, .inl (ca 2, 367, .inl (x 2))), (ad 3, .inl (ca 3, 367, .inl (x 3))), (qo, .inr (3, [.int r_1, .int r_1, .int (o 2), .int (o 3), .int (o 4), .int (o 5), .int (o 6), .int (o 7), .int (o 8)])), (qs, k_Si qc qg qr d), (qr, .inl (cr, n, .inl rr))] := hD
    refine lv_aload_n hx hb d_Si_lookAhead_40 rfl (lv_at hl 1 rfl) ?_
    refine lv_aload_n hx hb d_Si_lookAhead_41 rfl (lv_at hl 0 rfl) ?_
    refine va_get (D := D) (ci := 2) (v := .int (d 4)) (C := R_Si) (T := T_Si) (N := 9) hx hb hu in_Si hown hK hP 7 rfl rfl 7 (by decide) (hu _ hw_148) (fun _ h9 => h9) rfl d_Si_lookAhead_42 ?_
    refine va_put (D := D) (ci := 3) (v := .int (d 4)) (ty := .int) (C := R_Ou) (T := T_Ou) (N := 9) hx hb hu in_Ou t_Ou t_Ou_ok n_Ou hown hK hP hD hS 6 rfl rfl 2 (by decide) (hu _ hw_170) (fun _ h9 => h9) rfl (by decide +kernel) rfl rfl (Nat.le_of_ble_eq_true rfl) d_Si_lookAhead_45 (fun H locs hP hD hS => ?_)
    have hP : va_P D vwCl [(qc, k_Co qg ad), (qg, k_Sc g), (ad 0, .inl (ca 0, 367, .inl (x 0))), (ad 1, .inl (ca 1, 367, .inl (x 1))), (ad 2, .inl (ca 2, 367, .inl (x 2))), (ad 3, .inl (ca 3, 367, .inl (x 3))), (qo, .inr (3, [.int r_1, .int r_1, .int (d 4), .int (o 3), .int (o 4), .int (o 5), .int (o 6), .int (o 7), .int (o 8)])), (qs, k_Si qc qg qr d), (qr, .inl (cr, n, .inl rr))] H := hP
    have hD : va_D A [(qc, k_Co qg ad), (qg, k_Sc g), (ad 0, .inl (ca 0, 367, .inl (x 0))), (ad 1, .inl (ca 1, 367, .inl (x 1))), (ad 2, .inl (ca 2, 367, .inl (x 2))), (ad 3, .inl (ca 3, 367, .inl (x 3))), (qo, .inr (3, [.int r_1, .int r_1, .int (d 4), .int (o 3), .int (o 4), .int (o 5), .int (o 6), .int (o 7), .int (o 8)])), (qs, k_Si qc qg qr d), (qr, .inl (cr, n, .inl rr))] := hD
    refine lv_aload_n hx hb d_Si_lookAhead_48 rfl (lv_at hl 1 rfl) ?_
    refine lv_aload_n hx hb d_Si_lookAhead_49 rfl (lv_at hl 0 rfl) ?_
    refine va_get (D := D) (ci := 2) (v := .int (d 1)) (C := R_Si) (T := T_Si) (N := 9) hx hb hu in_Si hown hK hP 7 rfl rfl 3 (by decide) (hu _ hw_141) (fun _ h9 => h9) rfl d_Si_lookAhead_50 ?_
    refine lv_iconst (v := 1) hx hb d_Si_lookAhead_53 (by decide) ?_
    refine lv_iadd hx hb d_Si_lookAhead_54 ?_
    refine lv_aload_n hx hb d_Si_lookAhead_55 rfl (lv_at hl 0 rfl) ?_
    refine va_get (D := D) (ci := 2) (v := .int (d 0)) (C := R_Si) (T := T_Si) (N := 9) hx hb hu in_Si hown hK hP 7 rfl rfl 2 (by decide) (hu _ hw_140) (fun _ h9 => h9) rfl d_Si_lookAhead_56 ?_
    refine lv_icmp_ge (tgt := 75) hx hb d_Si_lookAhead_59 (by decide) (fun c_4 => ?_) (fun c_4 => ?_)
    · refine lv_aload_n hx hb d_Si_lookAhead_75 rfl (lv_at hl 1 rfl) ?_
      refine va_get (D := D) (ci := 3) (v := .int r_1) (C := R_Ou) (T := T_Ou) (N := 9) hx hb hu in_Ou hown hK hP 6 rfl rfl 1 (by decide) (hu _ hw_168) (fun _ h9 => h9) rfl d_Si_lookAhead_76 ?_
      refine va_put (D := D) (ci := 3) (v := .int r_1) (ty := .int) (C := R_Ou) (T := T_Ou) (N := 9) hx hb hu in_Ou t_Ou t_Ou_ok n_Ou hown hK hP hD hS 6 rfl rfl 3 (by decide) (hu _ hw_173) (fun _ h9 => h9) rfl (by decide +kernel) rfl rfl (Nat.le_of_ble_eq_true rfl) d_Si_lookAhead_79 (fun H locs hP hD hS => ?_)
      have hP : va_P D vwCl [(qc, k_Co qg ad), (qg, k_Sc g), (ad 0, .inl (ca 0, 367, .inl (x 0))), (ad 1, .inl (ca 1, 367, .inl (x 1))), (ad 2, .inl (ca 2, 367, .inl (x 2))), (ad 3, .inl (ca 3, 367, .inl (x 3))), (qo, .inr (3, [.int r_1, .int r_1, .int (d 4), .int r_1, .int (o 4), .int (o 5), .int (o 6), .int (o 7), .int (o 8)])), (qs, k_Si qc qg qr d), (qr, .inl (cr, n, .inl rr))] H := hP
      have hD : va_D A [(qc, k_Co qg ad), (qg, k_Sc g), (ad 0, .inl (ca 0, 367, .inl (x 0))), (ad 1, .inl (ca 1, 367, .inl (x 1))), (ad 2, .inl (ca 2, 367, .inl (x 2))), (ad 3, .inl (ca 3, 367, .inl (x 3))), (qo, .inr (3, [.int r_1, .int r_1, .int (d 4), .int r_1, .int (o 4), .int (o 5), .int (o 6), .int (o 7), .int (o 8)])), (qs, k_Si qc qg qr d), (qr, .inl (cr, n, .inl rr))] := hD
      refine lv_aload_n hx hb d_Si_lookAhead_82 rfl (lv_at hl 1 rfl) ?_
      refine lv_aload_n hx hb d_Si_lookAhead_83 rfl (lv_at hl 0 rfl) ?_
      refine va_get (D := D) (ci := 2) (v := .int (d 3)) (C := R_Si) (T := T_Si) (N := 9) hx hb hu in_Si hown hK hP 7 rfl rfl 5 (by decide) (hu _ hw_145) (fun _ h9 => h9) rfl d_Si_lookAhead_84 ?_
      refine lv_if_ne (tgt := 98) hx hb d_Si_lookAhead_87 (by decide) (fun c_5 => ?_) (fun c_5 => ?_)
      · refine lv_iconst (v := 1) hx hb d_Si_lookAhead_98 (by decide) ?_
        refine lv_goto (tgt := 103) hx hb d_Si_lookAhead_99 (by decide) ?_
        refine va_put (D := D) (ci := 3) (v := .int 1) (ty := .boolean) (C := R_Ou) (T := T_Ou) (N := 9) hx hb hu in_Ou t_Ou t_Ou_ok n_Ou hown hK hP hD hS 6 rfl rfl 4 (by decide) (hu _ hw_176) (fun _ h9 => h9) rfl (by decide +kernel) rfl rfl (Nat.le_of_ble_eq_true rfl) d_Si_lookAhead_103 (fun H locs hP hD hS => ?_)
        have hP : va_P D vwCl [(qc, k_Co qg ad), (qg, k_Sc g), (ad 0, .inl (ca 0, 367, .inl (x 0))), (ad 1, .inl (ca 1, 367, .inl (x 1))), (ad 2, .inl (ca 2, 367, .inl (x 2))), (ad 3, .inl (ca 3, 367, .inl (x 3))), (qo, .inr (3, [.int r_1, .int r_1, .int (d 4), .int r_1, .int 1, .int (o 5), .int (o 6), .int (o 7), .int (o 8)])), (qs, k_Si qc qg qr d), (qr, .inl (cr, n, .inl rr))] H := hP
        have hD : va_D A [(qc, k_Co qg ad), (qg, k_Sc g), (ad 0, .inl (ca 0, 367, .inl (x 0))), (ad 1, .inl (ca 1, 367, .inl (x 1))), (ad 2, .inl (ca 2, 367, .inl (x 2))), (ad 3, .inl (ca 3, 367, .inl (x 3))), (qo, .inr (3, [.int r_1, .int r_1, .int (d 4), .int r_1, .int 1, .int (o 5), .int (o 6), .int (o 7), .int (o 8)])), (qs, k_Si qc qg qr d), (qr, .inl (cr, n, .inl rr))] := hD
        refine lv_aload_n hx hb d_Si_lookAhead_106 rfl (lv_at hl 1 rfl) ?_
        refine va_get (D := D) (ci := 3) (v := .int 1) (C := R_Ou) (T := T_Ou) (N := 9) hx hb hu in_Ou hown hK hP 6 rfl rfl 4 (by decide) (hu _ hw_176) (fun _ h9 => h9) rfl d_Si_lookAhead_107 ?_
        refine lv_if_eq (tgt := 120) hx hb d_Si_lookAhead_110 (by decide) (fun c_6 => absurd c_6 (by decide)) (fun c_6 => ?_)
        refine lv_aload_n hx hb d_Si_lookAhead_113 rfl (lv_at hl 1 rfl) ?_
        refine vq_v (wr := [(qc, k_Co qg ad), (qg, k_Sc g), (ad 0, .inl (ca 0, 367, .inl (x 0))), (ad 1, .inl (ca 1, 367, .inl (x 1))), (ad 2, .inl (ca 2, 367, .inl (x 2))), (ad 3, .inl (ca 3, 367, .inl (x 3))), (qs, k_Si qc qg qr d), (qr, .inl (cr, n, .inl rr))]) (va_runV (As := []) (rest := []) ⟨hx, hb, hml, hown, hts⟩ (c_expectRun l D sa H.size qo (mk9 r_1 r_1 (d 4) r_1 1 (o 5) (o 6) (o 7) (o 8))) (cwV 0 hts (vg_V (fun w h => List.mem_cons_of_mem _ h) hw_335 hw_336 hw_337 hw_38 hw_338) rfl rfl rfl (by decide +kernel) ⟨Nat.le_of_ble_eq_true rfl, Nat.le_of_ble_eq_true rfl⟩) (vq_pV hE hK hP hD [6] [] rfl (by decide) rfl 3 6 rfl rfl rfl) rfl rfl hl.1 rfl (lv_room (Nat.le_of_ble_eq_true rfl)) d_Si_lookAhead_114 ⟨Nat.le_of_ble_eq_true rfl, Nat.le_of_ble_eq_true rfl⟩) hP hD hS hA [6] [0, 1, 2, 3, 4, 5, 7, 8] rfl rfl (by decide) (by decide) (fun o_7 H locs e_7 hP hD hS => ?_)
        have hP : va_P D vwCl [(qc, k_Co qg ad), (qg, k_Sc g), (ad 0, .inl (ca 0, 367, .inl (x 0))), (ad 1, .inl (ca 1, 367, .inl (x 1))), (ad 2, .inl (ca 2, 367, .inl (x 2))), (ad 3, .inl (ca 3, 367, .inl (x 3))), (qs, k_Si qc qg qr d), (qr, .inl (cr, n, .inl rr)), (qo, .inr (3, [.int (o_7 0), .int (o_7 1), .int (o_7 2), .int (o_7 3), .int (o_7 4), .int (o_7 5), .int (o_7 6), .int (o_7 7), .int (o_7 8)]))] H := hP
        have hD : va_D A [(qc, k_Co qg ad), (qg, k_Sc g), (ad 0, .inl (ca 0, 367, .inl (x 0))), (ad 1, .inl (ca 1, 367, .inl (x 1))), (ad 2, .inl (ca 2, 367, .inl (x 2))), (ad 3, .inl (ca 3, 367, .inl (x 3))), (qs, k_Si qc qg qr d), (qr, .inl (cr, n, .inl rr)), (qo, .inr (3, [.int (o_7 0), .int (o_7 1), .int (o_7 2), .int (o_7 3), .int (o_7 4), .int (o_7 5), .int (o_7 6), .int (o_7 7), .int (o_7 8)]))] := hD
        refine lv_goto (tgt := 132) hx hb d_Si_lookAhead_117 (by decide) ?_
        have hP9 : va_P D vwCl ([(qs, k_Si qc qg qr d), (qr, .inl (cr, n, .inl rr)), (qc, k_Co qg ad), (qg, k_Sc g), (ad 0, .inl (ca 0, 367, .inl (x 0))), (ad 1, .inl (ca 1, 367, .inl (x 1))), (ad 2, .inl (ca 2, 367, .inl (x 2))), (ad 3, .inl (ca 3, 367, .inl (x 3))), (qo, k_Ou (mk9 (o_7 0) (o_7 1) (o_7 2) (o_7 3) (o_7 4) (o_7 5) (o_7 6) (o_7 7) (o_7 8)))]) H := hP.sub [6, 7, 0, 1, 2, 3, 4, 5, 8] rfl
        have hD9 : va_D A ([(qs, k_Si qc qg qr d), (qr, .inl (cr, n, .inl rr)), (qc, k_Co qg ad), (qg, k_Sc g), (ad 0, .inl (ca 0, 367, .inl (x 0))), (ad 1, .inl (ca 1, 367, .inl (x 1))), (ad 2, .inl (ca 2, 367, .inl (x 2))), (ad 3, .inl (ca 3, 367, .inl (x 3))), (qo, k_Ou (mk9 (o_7 0) (o_7 1) (o_7 2) (o_7 3) (o_7 4) (o_7 5) (o_7 6) (o_7 7) (o_7 8)))]) := hD.sub [6, 7, 0, 1, 2, 3, 4, 5, 8] (by decide) rfl
        exact W.vret hx hb hr (fun t ht hW => ⟨⟨(mk9 (o_7 0) (o_7 1) (o_7 2) (o_7 3) (o_7 4) (o_7 5) (o_7 6) (o_7 7) (o_7 8)), rfl, by rw [f_lookAhead, e_1, f_lookAhead_2, if_pos c_3, if_pos c_4, if_neg c_5, e_7, f_lookAhead_8], by rw [ht]; exact hP9, va_K.moved hW.alike (hK.sub [0, 1, 2, 3, 4] rfl), hD9⟩, hS.F ht⟩) hS.2.2 d_Si_lookAhead_132
      · refine lv_aload_n hx hb d_Si_lookAhead_90 rfl (lv_at hl 0 rfl) ?_
        refine lv_aload_n hx hb d_Si_lookAhead_91 rfl (lv_at hl 1 rfl) ?_
        refine vq_i (wr := [(qc, k_Co qg ad), (ad 0, .inl (ca 0, 367, .inl (x 0))), (ad 1, .inl (ca 1, 367, .inl (x 1))), (ad 2, .inl (ca 2, 367, .inl (x 2))), (ad 3, .inl (ca 3, 367, .inl (x 3))), (qr, .inl (cr, n, .inl rr))]) (va_runV (As := [.ref qo]) (rest := [.ref qo]) ⟨hx, hb, hml, hown, hts⟩ (c_isFlatAround l D sa H.size qs qo qc qg qr g d (mk9 r_1 r_1 (d 4) r_1 (o 4) (o 5) (o 6) (o 7) (o 8))) (cwV 1 hts (vg_V (fun w h => List.mem_cons_of_mem _ h) hw_325 hw_326 hw_4 hw_35 hw_327) rfl rfl rfl (by decide +kernel) ⟨Nat.le_of_ble_eq_true rfl, Nat.le_of_ble_eq_true rfl⟩) (vq_pV hE hK hP hD [7, 6, 1] [] rfl (by decide) rfl 2 7 rfl rfl rfl) rfl rfl hl.1 rfl (lv_room (Nat.le_of_ble_eq_true rfl)) d_Si_lookAhead_92 ⟨Nat.le_of_ble_eq_true rfl, Nat.le_of_ble_eq_true rfl⟩) hP hD hS hA [7, 6, 1] [0, 2, 3, 4, 5, 8] rfl rfl (by decide) (by decide) (fun r_9 u_9 H locs e_9 hP hD hS => ?_)
        have hP : va_P D vwCl [(qc, k_Co qg ad), (ad 0, .inl (ca 0, 367, .inl (x 0))), (ad 1, .inl (ca 1, 367, .inl (x 1))), (ad 2, .inl (ca 2, 367, .inl (x 2))), (ad 3, .inl (ca 3, 367, .inl (x 3))), (qr, .inl (cr, n, .inl rr)), (qs, k_Si qc qg qr d), (qo, .inr (3, [.int r_1, .int r_1, .int (d 4), .int r_1, .int (o 4), .int (o 5), .int (o 6), .int (o 7), .int (o 8)])), (qg, k_Sc g)] H := hP
        have hD : va_D A [(qc, k_Co qg ad), (ad 0, .inl (ca 0, 367, .inl (x 0))), (ad 1, .inl (ca 1, 367, .inl (x 1))), (ad 2, .inl (ca 2, 367, .inl (x 2))), (ad 3, .inl (ca 3, 367, .inl (x 3))), (qr, .inl (cr, n, .inl rr)), (qs, k_Si qc qg qr d), (qo, .inr (3, [.int r_1, .int r_1, .int (d 4), .int r_1, .int (o 4), .int (o 5), .int (o 6), .int (o 7), .int (o 8)])), (qg, k_Sc g)] := hD
        refine lv_if_eq (tgt := 102) hx hb d_Si_lookAhead_95 (by decide) (fun c_11 => ?_) (fun c_11 => ?_)
        · refine lv_iconst (v := 0) hx hb d_Si_lookAhead_102 (by decide) ?_
          refine va_put (D := D) (ci := 3) (v := .int 0) (ty := .boolean) (C := R_Ou) (T := T_Ou) (N := 9) hx hb hu in_Ou t_Ou t_Ou_ok n_Ou hown hK hP hD hS 7 rfl rfl 4 (by decide) (hu _ hw_176) (fun _ h9 => h9) rfl (by decide +kernel) rfl rfl (Nat.le_of_ble_eq_true rfl) d_Si_lookAhead_103 (fun H locs hP hD hS => ?_)
          have hP : va_P D vwCl [(qc, k_Co qg ad), (ad 0, .inl (ca 0, 367, .inl (x 0))), (ad 1, .inl (ca 1, 367, .inl (x 1))), (ad 2, .inl (ca 2, 367, .inl (x 2))), (ad 3, .inl (ca 3, 367, .inl (x 3))), (qr, .inl (cr, n, .inl rr)), (qs, k_Si qc qg qr d), (qo, .inr (3, [.int r_1, .int r_1, .int (d 4), .int r_1, .int 0, .int (o 5), .int (o 6), .int (o 7), .int (o 8)])), (qg, k_Sc g)] H := hP
          have hD : va_D A [(qc, k_Co qg ad), (ad 0, .inl (ca 0, 367, .inl (x 0))), (ad 1, .inl (ca 1, 367, .inl (x 1))), (ad 2, .inl (ca 2, 367, .inl (x 2))), (ad 3, .inl (ca 3, 367, .inl (x 3))), (qr, .inl (cr, n, .inl rr)), (qs, k_Si qc qg qr d), (qo, .inr (3, [.int r_1, .int r_1, .int (d 4), .int r_1, .int 0, .int (o 5), .int (o 6), .int (o 7), .int (o 8)])), (qg, k_Sc g)] := hD
          refine lv_aload_n hx hb d_Si_lookAhead_106 rfl (lv_at hl 1 rfl) ?_
          refine va_get (D := D) (ci := 3) (v := .int 0) (C := R_Ou) (T := T_Ou) (N := 9) hx hb hu in_Ou hown hK hP 7 rfl rfl 4 (by decide) (hu _ hw_176) (fun _ h9 => h9) rfl d_Si_lookAhead_107 ?_
          refine lv_if_eq (tgt := 120) hx hb d_Si_lookAhead_110 (by decide) (fun c_12 => ?_) (fun c_12 => absurd c_12 (by decide))
          refine lv_aload_n hx hb d_Si_lookAhead_120 rfl (lv_at hl 1 rfl) ?_
          refine lv_aload_n hx hb d_Si_lookAhead_121 rfl (lv_at hl 0 rfl) ?_
          refine va_get (D := D) (ci := 2) (v := .ref qg) (C := R_Si) (T := T_Si) (N := 9) hx hb hu in_Si hown hK hP 6 rfl rfl 1 (by decide) (hu _ hw_139) (fun _ h9 => h9) rfl d_Si_lookAhead_122 ?_
          refine lv_aload_n hx hb d_Si_lookAhead_125 rfl (lv_at hl 0 rfl) ?_
          refine va_get (D := D) (ci := 2) (v := .ref qc) (C := R_Si) (T := T_Si) (N := 9) hx hb hu in_Si hown hK hP 6 rfl rfl 0 (by decide) (hu _ hw_137) (fun _ h9 => h9) rfl d_Si_lookAhead_126 ?_
          refine vq_v (wr := [(qr, .inl (cr, n, .inl rr)), (qs, k_Si qc qg qr d)]) (va_runV (As := [.ref qg, .ref qc]) (rest := []) ⟨hx, hb, hml, hown, hts⟩ (c_expectByGradients l D sa H.size qo qc qg ad ca g x (mk9 r_1 r_1 (d 4) r_1 0 (o 5) (o 6) (o 7) (o 8))) (cwV 2 hts (vg_V (fun w h => List.mem_cons_of_mem _ h) hw_339 hw_340 hw_341 hw_38 hw_342) rfl rfl rfl (by decide +kernel) ⟨Nat.le_of_ble_eq_true rfl, Nat.le_of_ble_eq_true rfl⟩) (vq_pV hE hK hP hD [7, 0, 8, 1, 2, 3, 4] [1, 2, 3, 4] rfl (by decide) rfl 3 7 rfl rfl rfl) rfl rfl hl.1 rfl (lv_room (Nat.le_of_ble_eq_true rfl)) d_Si_lookAhead_129 ⟨Nat.le_of_ble_eq_true rfl, Nat.le_of_ble_eq_true rfl⟩) hP hD hS hA [7, 0, 8, 1, 2, 3, 4] [5, 6] rfl rfl (by decide) (by decide) (fun o_13 H locs e_13 hP hD hS => ?_)
          have hP : va_P D vwCl [(qr, .inl (cr, n, .inl rr)), (qs, k_Si qc qg qr d), (qo, .inr (3, [.int (o_13 0), .int (o_13 1), .int (o_13 2), .int (o_13 3), .int (o_13 4), .int (o_13 5), .int (o_13 6), .int (o_13 7), .int (o_13 8)])), (qc, k_Co qg ad), (qg, k_Sc g), (ad 0, .inl (ca 0, 367, .inl (x 0))), (ad 1, .inl (ca 1, 367, .inl (x 1))), (ad 2, .inl (ca 2, 367, .inl (x 2))), (ad 3, .inl (ca 3, 367, .inl (x 3)))] H := hP
          have hD : va_D A [(qr, .inl (cr, n, .inl rr)), (qs, k_Si qc qg qr d), (qo, .inr (3, [.int (o_13 0), .int (o_13 1), .int (o_13 2), .int (o_13 3), .int (o_13 4), .int (o_13 5), .int (o_13 6), .int (o_13 7), .int (o_13 8)])), (qc, k_Co qg ad), (qg, k_Sc g), (ad 0, .inl (ca 0, 367, .inl (x 0))), (ad 1, .inl (ca 1, 367, .inl (x 1))), (ad 2, .inl (ca 2, 367, .inl (x 2))), (ad 3, .inl (ca 3, 367, .inl (x 3)))] := hD
          have hP9 : va_P D vwCl ([(qs, k_Si qc qg qr d), (qr, .inl (cr, n, .inl rr)), (qc, k_Co qg ad), (qg, k_Sc g), (ad 0, .inl (ca 0, 367, .inl (x 0))), (ad 1, .inl (ca 1, 367, .inl (x 1))), (ad 2, .inl (ca 2, 367, .inl (x 2))), (ad 3, .inl (ca 3, 367, .inl (x 3))), (qo, k_Ou (mk9 (o_13 0) (o_13 1) (o_13 2) (o_13 3) (o_13 4) (o_13 5) (o_13 6) (o_13 7) (o_13 8)))]) H := hP.sub [1, 0, 3, 4, 5, 6, 7, 8, 2] rfl
          have hD9 : va_D A ([(qs, k_Si qc qg qr d), (qr, .inl (cr, n, .inl rr)), (qc, k_Co qg ad), (qg, k_Sc g), (ad 0, .inl (ca 0, 367, .inl (x 0))), (ad 1, .inl (ca 1, 367, .inl (x 1))), (ad 2, .inl (ca 2, 367, .inl (x 2))), (ad 3, .inl (ca 3, 367, .inl (x 3))), (qo, k_Ou (mk9 (o_13 0) (o_13 1) (o_13 2) (o_13 3) (o_13 4) (o_13 5) (o_13 6) (o_13 7) (o_13 8)))]) := hD.sub [1, 0, 3, 4, 5, 6, 7, 8, 2] (by decide) rfl
          exact W.vret hx hb hr (fun t ht hW => ⟨⟨(mk9 (o_13 0) (o_13 1) (o_13 2) (o_13 3) (o_13 4) (o_13 5) (o_13 6) (o_13 7) (o_13 8)), rfl, by rw [f_lookAhead, e_1, f_lookAhead_2, if_pos c_3, if_pos c_4, if_pos c_5, e_9, f_lookAhead_10, if_pos c_11, e_13, f_lookAhead_14], by rw [ht]; exact hP9, va_K.moved hW.alike (hK.sub [0, 1, 2, 3, 4] rfl), hD9⟩, hS.F ht⟩) hS.2.2 d_Si_lookAhead_132
        · refine lv_iconst (v := 1) hx hb d_Si_lookAhead_98 (by decide) ?_
          refine lv_goto (tgt := 103) hx hb d_Si_lookAhead_99 (by decide) ?_
          refine va_put (D := D) (ci := 3) (v := .int 1) (ty := .boolean) (C := R_Ou) (T := T_Ou) (N := 9) hx hb hu in_Ou t_Ou t_Ou_ok n_Ou hown hK hP hD hS 7 rfl rfl 4 (by decide) (hu _ hw_176) (fun _ h9 => h9) rfl (by decide +kernel) rfl rfl (Nat.le_of_ble_eq_true rfl) d_Si_lookAhead_103 (fun H locs hP hD hS => ?_)
          have hP : va_P D vwCl [(qc, k_Co qg ad), (ad 0, .inl (ca 0, 367, .inl (x 0))), (ad 1, .inl (ca 1, 367, .inl (x 1))), (ad 2, .inl (ca 2, 367, .inl (x 2))), (ad 3, .inl (ca 3, 367, .inl (x 3))), (qr, .inl (cr, n, .inl rr)), (qs, k_Si qc qg qr d), (qo, .inr (3, [.int r_1, .int r_1, .int (d 4), .int r_1, .int 1, .int (o 5), .int (o 6), .int (o 7), .int (o 8)])), (qg, k_Sc g)] H := hP
          have hD : va_D A [(qc, k_Co qg ad), (ad 0, .inl (ca 0, 367, .inl (x 0))), (ad 1, .inl (ca 1, 367, .inl (x 1))), (ad 2, .inl (ca 2, 367, .inl (x 2))), (ad 3, .inl (ca 3, 367, .inl (x 3))), (qr, .inl (cr, n, .inl rr)), (qs, k_Si qc qg qr d), (qo, .inr (3, [.int r_1, .int r_1, .int (d 4), .int r_1, .int 1, .int (o 5), .int (o 6), .int (o 7), .int (o 8)])), (qg, k_Sc g)] := hD
          refine lv_aload_n hx hb d_Si_lookAhead_106 rfl (lv_at hl 1 rfl) ?_
          refine va_get (D := D) (ci := 3) (v := .int 1) (C := R_Ou) (T := T_Ou) (N := 9) hx hb hu in_Ou hown hK hP 7 rfl rfl 4 (by decide) (hu _ hw_176) (fun _ h9 => h9) rfl d_Si_lookAhead_107 ?_
          refine lv_if_eq (tgt := 120) hx hb d_Si_lookAhead_110 (by decide) (fun c_15 => absurd c_15 (by decide)) (fun c_15 => ?_)
          refine lv_aload_n hx hb d_Si_lookAhead_113 rfl (lv_at hl 1 rfl) ?_
          refine vq_v (wr := [(qc, k_Co qg ad), (ad 0, .inl (ca 0, 367, .inl (x 0))), (ad 1, .inl (ca 1, 367, .inl (x 1))), (ad 2, .inl (ca 2, 367, .inl (x 2))), (ad 3, .inl (ca 3, 367, .inl (x 3))), (qr, .inl (cr, n, .inl rr)), (qs, k_Si qc qg qr d), (qg, k_Sc g)]) (va_runV (As := []) (rest := []) ⟨hx, hb, hml, hown, hts⟩ (c_expectRun l D sa H.size qo (mk9 r_1 r_1 (d 4) r_1 1 (o 5) (o 6) (o 7) (o 8))) (cwV 0 hts (vg_V (fun w h => List.mem_cons_of_mem _ h) hw_335 hw_336 hw_337 hw_38 hw_338) rfl rfl rfl (by decide +kernel) ⟨Nat.le_of_ble_eq_true rfl, Nat.le_of_ble_eq_true rfl⟩) (vq_pV hE hK hP hD [7] [] rfl (by decide) rfl 3 7 rfl rfl rfl) rfl rfl hl.1 rfl (lv_room (Nat.le_of_ble_eq_true rfl)) d_Si_lookAhead_114 ⟨Nat.le_of_ble_eq_true rfl, Nat.le_of_ble_eq_true rfl⟩) hP hD hS hA [7] [0, 1, 2, 3, 4, 5, 6, 8] rfl rfl (by decide) (by decide) (fun o_16 H locs e_16 hP hD hS => ?_)
          have hP : va_P D vwCl [(qc, k_Co qg ad), (ad 0, .inl (ca 0, 367, .inl (x 0))), (ad 1, .inl (ca 1, 367, .inl (x 1))), (ad 2, .inl (ca 2, 367, .inl (x 2))), (ad 3, .inl (ca 3, 367, .inl (x 3))), (qr, .inl (cr, n, .inl rr)), (qs, k_Si qc qg qr d), (qg, k_Sc g), (qo, .inr (3, [.int (o_16 0), .int (o_16 1), .int (o_16 2), .int (o_16 3), .int (o_16 4), .int (o_16 5), .int (o_16 6), .int (o_16 7), .int (o_16 8)]))] H := hP
          have hD : va_D A [(qc, k_Co qg ad), (ad 0, .inl (ca 0, 367, .inl (x 0))), (ad 1, .inl (ca 1, 367, .inl (x 1))), (ad 2, .inl (ca 2, 367, .inl (x 2))), (ad 3, .inl (ca 3, 367, .inl (x 3))), (qr, .inl (cr, n, .inl rr)), (qs, k_Si qc qg qr d), (qg, k_Sc g), (qo, .inr (3, [.int (o_16 0), .int (o_16 1), .int (o_16 2), .int (o_16 3), .int (o_16 4), .int (o_16 5), .int (o_16 6), .int (o_16 7), .int (o_16 8)]))] := hD
          refine lv_goto (tgt := 132) hx hb d_Si_lookAhead_117 (by decide) ?_
          have hP9 : va_P D vwCl ([(qs, k_Si qc qg qr d), (qr, .inl (cr, n, .inl rr)), (qc, k_Co qg ad), (qg, k_Sc g), (ad 0, .inl (ca 0, 367, .inl (x 0))), (ad 1, .inl (ca 1, 367, .inl (x 1))), (ad 2, .inl (ca 2, 367, .inl (x 2))), (ad 3, .inl (ca 3, 367, .inl (x 3))), (qo, k_Ou (mk9 (o_16 0) (o_16 1) (o_16 2) (o_16 3) (o_16 4) (o_16 5) (o_16 6) (o_16 7) (o_16 8)))]) H := hP.sub [6, 5, 0, 7, 1, 2, 3, 4, 8] rfl
          have hD9 : va_D A ([(qs, k_Si qc qg qr d), (qr, .inl (cr, n, .inl rr)), (qc, k_Co qg ad), (qg, k_Sc g), (ad 0, .inl (ca 0, 367, .inl (x 0))), (ad 1, .inl (ca 1, 367, .inl (x 1))), (ad 2, .inl (ca 2, 367, .inl (x 2))), (ad 3, .inl (ca 3, 367, .inl (x 3))), (qo, k_Ou (mk9 (o_16 0) (o_16 1) (o_16 2) (o_16 3) (o_16 4) (o_16 5) (o_16 6) (o_16 7) (o_16 8)))]) := hD.sub [6, 5, 0, 7, 1, 2, 3, 4, 8] (by decide) rfl
          exact W.vret hx hb hr (fun t ht hW => ⟨⟨(mk9 (o_16 0) (o_16 1) (o_16 2) (o_16 3) (o_16 4) (o_16 5) (o_16 6) (o_16 7) (o_16 8)), rfl, by rw [f_lookAhead, e_1, f_lookAhead_2, if_pos c_3, if_pos c_4, if_pos c_5, e_9, f_lookAhead_10, if_neg c_11, e_16, f_lookAhead_17], by rw [ht]; exact hP9, va_K.moved hW.alike (hK.sub [0, 1, 2, 3, 4] rfl), hD9⟩, hS.F ht⟩) hS.2.2 d_Si_lookAhead_132
    · refine lv_aload_n hx hb d_Si_lookAhead_62 rfl (lv_at hl 0 rfl) ?_
      refine lv_aload_n hx hb d_Si_lookAhead_63 rfl (lv_at hl 0 rfl) ?_
      refine va_get (D := D) (ci := 2) (v := .int (d 1)) (C := R_Si) (T := T_Si) (N := 9) hx hb hu in_Si hown hK hP 7 rfl rfl 3 (by decide) (hu _ hw_141) (fun _ h9 => h9) rfl d_Si_lookAhead_64 ?_
      refine lv_iconst (v := 1) hx hb d_Si_lookAhead_67 (by decide) ?_
      refine lv_iadd hx hb d_Si_lookAhead_68 ?_
      refine vq_i (wr := [(qc, k_Co qg ad), (qg, k_Sc g), (ad 0, .inl (ca 0, 367, .inl (x 0))), (ad 1, .inl (ca 1, 367, .inl (x 1))), (ad 2, .inl (ca 2, 367, .inl (x 2))), (ad 3, .inl (ca 3, 367, .inl (x 3))), (qo, .inr (3, [.int r_1, .int r_1, .int (d 4), .int (o 3), .int (o 4), .int (o 5), .int (o 6), .int (o 7), .int (o 8)]))]) (va_runV (As := [.int ((d 1) + 1)]) (rest := [.ref qo]) ⟨hx, hb, hml, hown, hts⟩ (c_rowAt l D sa H.size qs qr cr qc qg n d rr ((d 1) + 1) hn) (cwV 1 hts (vg_V (fun w h => List.mem_cons_of_mem _ h) hw_322 hw_323 hw_3 hw_35 hw_324) rfl rfl rfl (by decide +kernel) ⟨Nat.le_of_ble_eq_true rfl, Nat.le_of_ble_eq_true rfl⟩) (vq_pV hE hK hP hD [7, 8] [0] rfl (by decide) rfl 2 7 rfl rfl rfl) rfl rfl hl.1 rfl (lv_room (Nat.le_of_ble_eq_true rfl)) d_Si_lookAhead_69 ⟨Nat.le_of_ble_eq_true rfl, Nat.le_of_ble_eq_true rfl⟩) hP hD hS hA [7, 8] [0, 1, 2, 3, 4, 5, 6] rfl rfl (by decide) (by decide) (fun r_18 u_18 H locs e_18 hP hD hS => ?_)
      have hP : va_P D vwCl [(qc, k_Co qg ad), (qg, k_Sc g), (ad 0, .inl (ca 0, 367, .inl (x 0))), (ad 1, .inl (ca 1, 367, .inl (x 1))), (ad 2, .inl (ca 2, 367, .inl (x 2))), (ad 3, .inl (ca 3, 367, .inl (x 3))), (qo, .inr (3, [.int r_1, .int r_1, .int (d 4), .int (o 3), .int (o 4), .int (o 5), .int (o 6), .int (o 7), .int (o 8)])), (qs, k_Si qc qg qr d), (qr, .inl (cr, n, .inl rr))] H := hP
      have hD : va_D A [(qc, k_Co qg ad), (qg, k_Sc g), (ad 0, .inl (ca 0, 367, .inl (x 0))), (ad 1, .inl (ca 1, 367, .inl (x 1))), (ad 2, .inl (ca 2, 367, .inl (x 2))), (ad 3, .inl (ca 3, 367, .inl (x 3))), (qo, .inr (3, [.int r_1, .int r_1, .int (d 4), .int (o 3), .int (o 4), .int (o 5), .int (o 6), .int (o 7), .int (o 8)])), (qs, k_Si qc qg qr d), (qr, .inl (cr, n, .inl rr))] := hD
      refine lv_goto (tgt := 79) hx hb d_Si_lookAhead_72 (by decide) ?_
      refine va_put (D := D) (ci := 3) (v := .int r_18) (ty := .int) (C := R_Ou) (T := T_Ou) (N := 9) hx hb hu in_Ou t_Ou t_Ou_ok n_Ou hown hK hP hD hS 6 rfl rfl 3 (by decide) (hu _ hw_173) (fun _ h9 => h9) rfl (by decide +kernel) rfl rfl (Nat.le_of_ble_eq_true rfl) d_Si_lookAhead_79 (fun H locs hP hD hS => ?_)
      have hP : va_P D vwCl [(qc, k_Co qg ad), (qg, k_Sc g), (ad 0, .inl (ca 0, 367, .inl (x 0))), (ad 1, .inl (ca 1, 367, .inl (x 1))), (ad 2, .inl (ca 2, 367, .inl (x 2))), (ad 3, .inl (ca 3, 367, .inl (x 3))), (qo, .inr (3, [.int r_1, .int r_1, .int (d 4), .int r_18, .int (o 4), .int (o 5), .int (o 6), .int (o 7), .int (o 8)])), (qs, k_Si qc qg qr d), (qr, .inl (cr, n, .inl rr))] H := hP
      have hD : va_D A [(qc, k_Co qg ad), (qg, k_Sc g), (ad 0, .inl (ca 0, 367, .inl (x 0))), (ad 1, .inl (ca 1, 367, .inl (x 1))), (ad 2, .inl (ca 2, 367, .inl (x 2))), (ad 3, .inl (ca 3, 367, .inl (x 3))), (qo, .inr (3, [.int r_1, .int r_1, .int (d 4), .int r_18, .int (o 4), .int (o 5), .int (o 6), .int (o 7), .int (o 8)])), (qs, k_Si qc qg qr d), (qr, .inl (cr, n, .inl rr))] := hD
      refine lv_aload_n hx hb d_Si_lookAhead_82 rfl (lv_at hl 1 rfl) ?_
      refine lv_aload_n hx hb d_Si_lookAhead_83 rfl (lv_at hl 0 rfl) ?_
      refine va_get (D := D) (ci := 2) (v := .int (d 3)) (C := R_Si) (T := T_Si) (N := 9) hx hb hu in_Si hown hK hP 7 rfl rfl 5 (by decide) (hu _ hw_145) (fun _ h9 => h9) rfl d_Si_lookAhead_84 ?_
      refine lv_if_ne (tgt := 98) hx hb d_Si_lookAhead_87 (by decide) (fun c_20 => ?_) (fun c_20 => ?_)
      · refine lv_iconst (v := 1) hx hb d_Si_lookAhead_98 (by decide) ?_
        refine lv_goto (tgt := 103) hx hb d_Si_lookAhead_99 (by decide) ?_
        refine va_put (D := D) (ci := 3) (v := .int 1) (ty := .boolean) (C := R_Ou) (T := T_Ou) (N := 9) hx hb hu in_Ou t_Ou t_Ou_ok n_Ou hown hK hP hD hS 6 rfl rfl 4 (by decide) (hu _ hw_176) (fun _ h9 => h9) rfl (by decide +kernel) rfl rfl (Nat.le_of_ble_eq_true rfl) d_Si_lookAhead_103 (fun H locs hP hD hS => ?_)
        have hP : va_P D vwCl [(qc, k_Co qg ad), (qg, k_Sc g), (ad 0, .inl (ca 0, 367, .inl (x 0))), (ad 1, .inl (ca 1, 367, .inl (x 1))), (ad 2, .inl (ca 2, 367, .inl (x 2))), (ad 3, .inl (ca 3, 367, .inl (x 3))), (qo, .inr (3, [.int r_1, .int r_1, .int (d 4), .int r_18, .int 1, .int (o 5), .int (o 6), .int (o 7), .int (o 8)])), (qs, k_Si qc qg qr d), (qr, .inl (cr, n, .inl rr))] H := hP
        have hD : va_D A [(qc, k_Co qg ad), (qg, k_Sc g), (ad 0, .inl (ca 0, 367, .inl (x 0))), (ad 1, .inl (ca 1, 367, .inl (x 1))), (ad 2, .inl (ca 2, 367, .inl (x 2))), (ad 3, .inl (ca 3, 367, .inl (x 3))), (qo, .inr (3, [.int r_1, .int r_1, .int (d 4), .int r_18, .int 1, .int (o 5), .int (o 6), .int (o 7), .int (o 8)])), (qs, k_Si qc qg qr d), (qr, .inl (cr, n, .inl rr))] := hD
        refine lv_aload_n hx hb d_Si_lookAhead_106 rfl (lv_at hl 1 rfl) ?_
        refine va_get (D := D) (ci := 3) (v := .int 1) (C := R_Ou) (T := T_Ou) (N := 9) hx hb hu in_Ou hown hK hP 6 rfl rfl 4 (by decide) (hu _ hw_176) (fun _ h9 => h9) rfl d_Si_lookAhead_107 ?_
        refine lv_if_eq (tgt := 120) hx hb d_Si_lookAhead_110 (by decide) (fun c_21 => absurd c_21 (by decide)) (fun c_21 => ?_)
        refine lv_aload_n hx hb d_Si_lookAhead_113 rfl (lv_at hl 1 rfl) ?_
        refine vq_v (wr := [(qc, k_Co qg ad), (qg, k_Sc g), (ad 0, .inl (ca 0, 367, .inl (x 0))), (ad 1, .inl (ca 1, 367, .inl (x 1))), (ad 2, .inl (ca 2, 367, .inl (x 2))), (ad 3, .inl (ca 3, 367, .inl (x 3))), (qs, k_Si qc qg qr d), (qr, .inl (cr, n, .inl rr))]) (va_runV (As := []) (rest := []) ⟨hx, hb, hml, hown, hts⟩ (c_expectRun l D sa H.size qo (mk9 r_1 r_1 (d 4) r_18 1 (o 5) (o 6) (o 7) (o 8))) (cwV 0 hts (vg_V (fun w h => List.mem_cons_of_mem _ h) hw_335 hw_336 hw_337 hw_38 hw_338) rfl rfl rfl (by decide +kernel) ⟨Nat.le_of_ble_eq_true rfl, Nat.le_of_ble_eq_true rfl⟩) (vq_pV hE hK hP hD [6] [] rfl (by decide) rfl 3 6 rfl rfl rfl) rfl rfl hl.1 rfl (lv_room (Nat.le_of_ble_eq_true rfl)) d_Si_lookAhead_114 ⟨Nat.le_of_ble_eq_true rfl, Nat.le_of_ble_eq_true rfl⟩) hP hD hS hA [6] [0, 1, 2, 3, 4, 5, 7, 8] rfl rfl (by decide) (by decide) (fun o_22 H locs e_22 hP hD hS => ?_)
        have hP : va_P D vwCl [(qc, k_Co qg ad), (qg, k_Sc g), (ad 0, .inl (ca 0, 367, .inl (x 0))), (ad 1, .inl (ca 1, 367, .inl (x 1))), (ad 2, .inl (ca 2, 367, .inl (x 2))), (ad 3, .inl (ca 3, 367, .inl (x 3))), (qs, k_Si qc qg qr d), (qr, .inl (cr, n, .inl rr)), (qo, .inr (3, [.int (o_22 0), .int (o_22 1), .int (o_22 2), .int (o_22 3), .int (o_22 4), .int (o_22 5), .int (o_22 6), .int (o_22 7), .int (o_22 8)]))] H := hP
        have hD : va_D A [(qc, k_Co qg ad), (qg, k_Sc g), (ad 0, .inl (ca 0, 367, .inl (x 0))), (ad 1, .inl (ca 1, 367, .inl (x 1))), (ad 2, .inl (ca 2, 367, .inl (x 2))), (ad 3, .inl (ca 3, 367, .inl (x 3))), (qs, k_Si qc qg qr d), (qr, .inl (cr, n, .inl rr)), (qo, .inr (3, [.int (o_22 0), .int (o_22 1), .int (o_22 2), .int (o_22 3), .int (o_22 4), .int (o_22 5), .int (o_22 6), .int (o_22 7), .int (o_22 8)]))] := hD
        refine lv_goto (tgt := 132) hx hb d_Si_lookAhead_117 (by decide) ?_
        have hP9 : va_P D vwCl ([(qs, k_Si qc qg qr d), (qr, .inl (cr, n, .inl rr)), (qc, k_Co qg ad), (qg, k_Sc g), (ad 0, .inl (ca 0, 367, .inl (x 0))), (ad 1, .inl (ca 1, 367, .inl (x 1))), (ad 2, .inl (ca 2, 367, .inl (x 2))), (ad 3, .inl (ca 3, 367, .inl (x 3))), (qo, k_Ou (mk9 (o_22 0) (o_22 1) (o_22 2) (o_22 3) (o_22 4) (o_22 5) (o_22 6) (o_22 7) (o_22 8)))]) H := hP.sub [6, 7, 0, 1, 2, 3, 4, 5, 8] rfl
        have hD9 : va_D A ([(qs, k_Si qc qg qr d), (qr, .inl (cr, n, .inl rr)), (qc, k_Co qg ad), (qg, k_Sc g), (ad 0, .inl (ca 0, 367, .inl (x 0))), (ad 1, .inl (ca 1, 367, .inl (x 1))), (ad 2, .inl (ca 2, 367, .inl (x 2))), (ad 3, .inl (ca 3, 367, .inl (x 3))), (qo, k_Ou (mk9 (o_22 0) (o_22 1) (o_22 2) (o_22 3) (o_22 4) (o_22 5) (o_22 6) (o_22 7) (o_22 8)))]) := hD.sub [6, 7, 0, 1, 2, 3, 4, 5, 8] (by decide) rfl
        exact W.vret hx hb hr (fun t ht hW => ⟨⟨(mk9 (o_22 0) (o_22 1) (o_22 2) (o_22 3) (o_22 4) (o_22 5) (o_22 6) (o_22 7) (o_22 8)), rfl, by rw [f_lookAhead, e_1, f_lookAhead_2, if_pos c_3, if_neg c_4, e_18, f_lookAhead_19, if_neg c_20, e_22, f_lookAhead_23], by rw [ht]; exact hP9, va_K.moved hW.alike (hK.sub [0, 1, 2, 3, 4] rfl), hD9⟩, hS.F ht⟩) hS.2.2 d_Si_lookAhead_132
      · refine lv_aload_n hx hb d_Si_lookAhead_90 rfl (lv_at hl 0 rfl) ?_
        refine lv_aload_n hx hb d_Si_lookAhead_91 rfl (lv_at hl 1 rfl) ?_
        refine vq_i (wr := [(qc, k_Co qg ad), (ad 0, .inl (ca 0, 367, .inl (x 0))), (ad 1, .inl (ca 1, 367, .inl (x 1))), (ad 2, .inl (ca 2, 367, .inl (x 2))), (ad 3, .inl (ca 3, 367, .inl (x 3))), (qr, .inl (cr, n, .inl rr))]) (va_runV (As := [.ref qo]) (rest := [.ref qo]) ⟨hx, hb, hml, hown, hts⟩ (c_isFlatAround l D sa H.size qs qo qc qg qr g d (mk9 r_1 r_1 (d 4) r_18 (o 4) (o 5) (o 6) (o 7) (o 8))) (cwV 1 hts (vg_V (fun w h => List.mem_cons_of_mem _ h) hw_325 hw_326 hw_4 hw_35 hw_327) rfl rfl rfl (by decide +kernel) ⟨Nat.le_of_ble_eq_true rfl, Nat.le_of_ble_eq_true rfl⟩) (vq_pV hE hK hP hD [7, 6, 1] [] rfl (by decide) rfl 2 7 rfl rfl rfl) rfl rfl hl.1 rfl (lv_room (Nat.le_of_ble_eq_true rfl)) d_Si_lookAhead_92 ⟨Nat.le_of_ble_eq_true rfl, Nat.le_of_ble_eq_true rfl⟩) hP hD hS hA [7, 6, 1] [0, 2, 3, 4, 5, 8] rfl rfl (by decide) (by decide) (fun r_24 u_24 H locs e_24 hP hD hS => ?_)
        have hP : va_P D vwCl [(qc, k_Co qg ad), (ad 0, .inl (ca 0, 367, .inl (x 0))), (ad 1, .inl (ca 1, 367, .inl (x 1))), (ad 2, .inl (ca 2, 367, .inl (x 2))), (ad 3, .inl (ca 3, 367, .inl (x 3))), (qr, .inl (cr, n, .inl rr)), (qs, k_Si qc qg qr d), (qo, .inr (3, [.int r_1, .int r_1, .int (d 4), .int r_18, .int (o 4), .int (o 5), .int (o 6), .int (o 7), .int (o 8)])), (qg, k_Sc g)] H := hP
        have hD : va_D A [(qc, k_Co qg ad), (ad 0, .inl (ca 0, 367, .inl (x 0))), (ad 1, .inl (ca 1, 367, .inl (x 1))), (ad 2, .inl (ca 2, 367, .inl (x 2))), (ad 3, .inl (ca 3, 367, .inl (x 3))), (qr, .inl (cr, n, .inl rr)), (qs, k_Si qc qg qr d), (qo, .inr (3, [.int r_1, .int r_1, .int (d 4), .int r_18, .int (o 4), .int (o 5), .int (o 6), .int (o 7), .int (o 8)])), (qg, k_Sc g)] := hD
        refine lv_if_eq (tgt := 102) hx hb d_Si_lookAhead_95 (by decide) (fun c_26 => ?_) (fun c_26 => ?_)
        · refine lv_iconst (v := 0) hx hb d_Si_lookAhead_102 (by decide) ?_
          refine va_put (D := D) (ci := 3) (v := .int 0) (ty := .boolean) (C := R_Ou) (T := T_Ou) (N := 9) hx hb hu in_Ou t_Ou t_Ou_ok n_Ou hown hK hP hD hS 7 rfl rfl 4 (by decide) (hu _ hw_176) (fun _ h9 => h9) rfl (by decide +kernel) rfl rfl (Nat.le_of_ble_eq_true rfl) d_Si_lookAhead_103 (fun H locs hP hD hS => ?_)
          have hP : va_P D vwCl [(qc, k_Co qg ad), (ad 0, .inl (ca 0, 367, .inl (x 0))), (ad 1, .inl (ca 1, 367, .inl (x 1))), (ad 2, .inl (ca 2, 367, .inl (x 2))), (ad 3, .inl (ca 3, 367, .inl (x 3))), (qr, .inl (cr, n, .inl rr)), (qs, k_Si qc qg qr d), (qo, .inr (3, [.int r_1, .int r_1, .int (d 4), .int r_18, .int 0, .int (o 5), .int (o 6), .int (o 7), .int (o 8)])), (qg, k_Sc g)] H := hP
          have hD : va_D A [(qc, k_Co qg ad), (ad 0, .inl (ca 0, 367, .inl (x 0))), (ad 1, .inl (ca 1, 367, .inl (x 1))), (ad 2, .inl (ca 2, 367, .inl (x 2))), (ad 3, .inl (ca 3, 367, .inl (x 3))), (qr, .inl (cr, n, .inl rr)), (qs, k_Si qc qg qr d), (qo, .inr (3, [.int r_1, .int r_1, .int (d 4), .int r_18, .int 0, .int (o 5), .int (o 6), .int (o 7), .int (o 8)])), (qg, k_Sc g)] := hD
          refine lv_aload_n hx hb d_Si_lookAhead_106 rfl (lv_at hl 1 rfl) ?_
          refine va_get (D := D) (ci := 3) (v := .int 0) (C := R_Ou) (T := T_Ou) (N := 9) hx hb hu in_Ou hown hK hP 7 rfl rfl 4 (by decide) (hu _ hw_176) (fun _ h9 => h9) rfl d_Si_lookAhead_107 ?_
          refine lv_if_eq (tgt := 120) hx hb d_Si_lookAhead_110 (by decide) (fun c_27 => ?_) (fun c_27 => absurd c_27 (by decide))
          refine lv_aload_n hx hb d_Si_lookAhead_120 rfl (lv_at hl 1 rfl) ?_
          refine lv_aload_n hx hb d_Si_lookAhead_121 rfl (lv_at hl 0 rfl) ?_
          refine va_get (D := D) (ci := 2) (v := .ref qg) (C := R_Si) (T := T_Si) (N := 9) hx hb hu in_Si hown hK hP 6 rfl rfl 1 (by decide) (hu _ hw_139) (fun _ h9 => h9) rfl d_Si_lookAhead_122 ?_
          refine lv_aload_n hx hb d_Si_lookAhead_125 rfl (lv_at hl 0 rfl) ?_
          refine va_get (D := D) (ci := 2) (v := .ref qc) (C := R_Si) (T := T_Si) (N := 9) hx hb hu in_Si hown hK hP 6 rfl rfl 0 (by decide) (hu _ hw_137) (fun _ h9 => h9) rfl d_Si_lookAhead_126 ?_
          refine vq_v (wr := [(qr, .inl (cr, n, .inl rr)), (qs, k_Si qc qg qr d)]) (va_runV (As := [.ref qg, .ref qc]) (rest := []) ⟨hx, hb, hml, hown, hts⟩ (c_expectByGradients l D sa H.size qo qc qg ad ca g x (mk9 r_1 r_1 (d 4) r_18 0 (o 5) (o 6) (o 7) (o 8))) (cwV 2 hts (vg_V (fun w h => List.mem_cons_of_mem _ h) hw_339 hw_340 hw_341 hw_38 hw_342) rfl rfl rfl (by decide +kernel) ⟨Nat.le_of_ble_eq_true rfl, Nat.le_of_ble_eq_true rfl⟩) (vq_pV hE hK hP hD [7, 0, 8, 1, 2, 3, 4] [1, 2, 3, 4] rfl (by decide) rfl 3 7 rfl rfl rfl) rfl rfl hl.1 rfl (lv_room (Nat.le_of_ble_eq_true rfl)) d_Si_lookAhead_129 ⟨Nat.le_of_ble_eq_true rfl, Nat.le_of_ble_eq_true rfl⟩) hP hD hS hA [7, 0, 8, 1, 2, 3, 4] [5, 6] rfl rfl (by decide) (by decide) (fun o_28 H locs e_28 hP hD hS => ?_)
          have hP : va_P D vwCl [(qr, .inl (cr, n, .inl rr)), (qs, k_Si qc qg qr d), (qo, .inr (3, [.int (o_28 0), .int (o_28 1), .int (o_28 2), .int (o_28 3), .int (o_28 4), .int (o_28 5), .int (o_28 6), .int (o_28 7), .int (o_28 8)])), (qc, k_Co qg ad), (qg, k_Sc g), (ad 0, .inl (ca 0, 367, .inl (x 0))), (ad 1, .inl (ca 1, 367, .inl (x 1))), (ad 2, .inl (ca 2, 367, .inl (x 2))), (ad 3, .inl (ca 3, 367, .inl (x 3)))] H := hP
          have hD : va_D A [(qr, .inl (cr, n, .inl rr)), (qs, k_Si qc qg qr d), (qo, .inr (3, [.int (o_28 0), .int (o_28 1), .int (o_28 2), .int (o_28 3), .int (o_28 4), .int (o_28 5), .int (o_28 6), .int (o_28 7), .int (o_28 8)])), (qc, k_Co qg ad), (qg, k_Sc g), (ad 0, .inl (ca 0, 367, .inl (x 0))), (ad 1, .inl (ca 1, 367, .inl (x 1))), (ad 2, .inl (ca 2, 367, .inl (x 2))), (ad 3, .inl (ca 3, 367, .inl (x 3)))] := hD
          have hP9 : va_P D vwCl ([(qs, k_Si qc qg qr d), (qr, .inl (cr, n, .inl rr)), (qc, k_Co qg ad), (qg, k_Sc g), (ad 0, .inl (ca 0, 367, .inl (x 0))), (ad 1, .inl (ca 1, 367, .inl (x 1))), (ad 2, .inl (ca 2, 367, .inl (x 2))), (ad 3, .inl (ca 3, 367, .inl (x 3))), (qo, k_Ou (mk9 (o_28 0) (o_28 1) (o_28 2) (o_28 3) (o_28 4) (o_28 5) (o_28 6) (o_28 7) (o_28 8)))]) H := hP.sub [1, 0, 3, 4, 5, 6, 7, 8, 2] rfl
          have hD9 : va_D A ([(qs, k_Si qc qg qr d), (qr, .inl (cr, n, .inl rr)), (qc, k_Co qg ad), (qg, k_Sc g), (ad 0, .inl (ca 0, 367, .inl (x 0))), (ad 1, .inl (ca 1, 367, .inl (x 1))), (ad 2, .inl (ca 2, 367, .inl (x 2))), (ad 3, .inl (ca 3, 367, .inl (x 3))), (qo, k_Ou (mk9 (o_28 0) (o_28 1) (o_28 2) (o_28 3) (o_28 4) (o_28 5) (o_28 6) (o_28 7) (o_28 8)))]) := hD.sub [1, 0, 3, 4, 5, 6, 7, 8, 2] (by decide) rfl
          exact W.vret hx hb hr (fun t ht hW => ⟨⟨(mk9 (o_28 0) (o_28 1) (o_28 2) (o_28 3) (o_28 4) (o_28 5) (o_28 6) (o_28 7) (o_28 8)), rfl, by rw [f_lookAhead, e_1, f_lookAhead_2, if_pos c_3, if_neg c_4, e_18, f_lookAhead_19, if_pos c_20, e_24, f_lookAhead_25, if_pos c_26, e_28, f_lookAhead_29], by rw [ht]; exact hP9, va_K.moved hW.alike (hK.sub [0, 1, 2, 3, 4] rfl), hD9⟩, hS.F ht⟩) hS.2.2 d_Si_lookAhead_132
        · refine lv_iconst (v := 1) hx hb d_Si_lookAhead_98 (by decide) ?_
          refine lv_goto (tgt := 103) hx hb d_Si_lookAhead_99 (by decide) ?_
          refine va_put (D := D) (ci := 3) (v := .int 1) (ty := .boolean) (C := R_Ou) (T := T_Ou) (N := 9) hx hb hu in_Ou t_Ou t_Ou_ok n_Ou hown hK hP hD hS 7 rfl rfl 4 (by decide) (hu _ hw_176) (fun _ h9 => h9) rfl (by decide +kernel) rfl rfl (Nat.le_of_ble_eq_true rfl) d_Si_lookAhead_103 (fun H locs hP hD hS => ?_)
          have hP : va_P D vwCl [(qc, k_Co qg ad), (ad 0, .inl (ca 0, 367, .inl (x 0))), (ad 1, .inl (ca 1, 367, .inl (x 1))), (ad 2, .inl (ca 2, 367, .inl (x 2))), (ad 3, .inl (ca 3, 367, .inl (x 3))), (qr, .inl (cr, n, .inl rr)), (qs, k_Si qc qg qr d), (qo, .inr (3, [.int r_1, .int r_1, .int (d 4), .int r_18, .int 1, .int (o 5), .int (o 6), .int (o 7), .int (o 8)])), (qg, k_Sc g)] H := hP
          have hD : va_D A [(qc, k_Co qg ad), (ad 0, .inl (ca 0, 367, .inl (x 0))), (ad 1, .inl (ca 1, 367, .inl (x 1))), (ad 2, .inl (ca 2, 367, .inl (x 2))), (ad 3, .inl (ca 3, 367, .inl (x 3))), (qr, .inl (cr, n, .inl rr)), (qs, k_Si qc qg qr d), (qo, .inr (3, [.int r_1, .int r_1, .int (d 4), .int r_18, .int 1, .int (o 5), .int (o 6), .int (o 7), .int (o 8)])), (qg, k_Sc g)] := hD
          refine lv_aload_n hx hb d_Si_lookAhead_106 rfl (lv_at hl 1 rfl) ?_
          refine va_get (D := D) (ci := 3) (v := .int 1) (C := R_Ou) (T := T_Ou) (N := 9) hx hb hu in_Ou hown hK hP 7 rfl rfl 4 (by decide) (hu _ hw_176) (fun _ h9 => h9) rfl d_Si_lookAhead_107 ?_
          refine lv_if_eq (tgt := 120) hx hb d_Si_lookAhead_110 (by decide) (fun c_30 => absurd c_30 (by decide)) (fun c_30 => ?_)
          refine lv_aload_n hx hb d_Si_lookAhead_113 rfl (lv_at hl 1 rfl) ?_
          refine vq_v (wr := [(qc, k_Co qg ad), (ad 0, .inl (ca 0, 367, .inl (x 0))), (ad 1, .inl (ca 1, 367, .inl (x 1))), (ad 2, .inl (ca 2, 367, .inl (x 2))), (ad 3, .inl (ca 3, 367, .inl (x 3))), (qr, .inl (cr, n, .inl rr)), (qs, k_Si qc qg qr d), (qg, k_Sc g)]) (va_runV (As := []) (rest := []) ⟨hx, hb, hml, hown, hts⟩ (c_expectRun l D sa H.size qo (mk9 r_1 r_1 (d 4) r_18 1 (o 5) (o 6) (o 7) (o 8))) (cwV 0 hts (vg_V (fun w h => List.mem_cons_of_mem _ h) hw_335 hw_336 hw_337 hw_38 hw_338) rfl rfl rfl (by decide +kernel) ⟨Nat.le_of_ble_eq_true rfl, Nat.le_of_ble_eq_true rfl⟩) (vq_pV hE hK hP hD [7] [] rfl (by decide) rfl 3 7 rfl rfl rfl) rfl rfl hl.1 rfl (lv_room (Nat.le_of_ble_eq_true rfl)) d_Si_lookAhead_114 ⟨Nat.le_of_ble_eq_true rfl, Nat.le_of_ble_eq_true rfl⟩) hP hD hS hA [7] [0, 1, 2, 3, 4, 5, 6, 8] rfl rfl (by decide) (by decide) (fun o_31 H locs e_31 hP hD hS => ?_)
          have hP : va_P D vwCl [(qc, k_Co qg ad), (ad 0, .inl (ca 0, 367, .inl (x 0))), (ad 1, .inl (ca 1, 367, .inl (x 1))), (ad 2, .inl (ca 2, 367, .inl (x 2))), (ad 3, .inl (ca 3, 367, .inl (x 3))), (qr, .inl (cr, n, .inl rr)), (qs, k_Si qc qg qr d), (qg, k_Sc g), (qo, .inr (3, [.int (o_31 0), .int (o_31 1), .int (o_31 2), .int (o_31 3), .int (o_31 4), .int (o_31 5), .int (o_31 6), .int (o_31 7), .int (o_31 8)]))] H := hP
          have hD : va_D A [(qc, k_Co qg ad), (ad 0, .inl (ca 0, 367, .inl (x 0))), (ad 1, .inl (ca 1, 367, .inl (x 1))), (ad 2, .inl (ca 2, 367, .inl (x 2))), (ad 3, .inl (ca 3, 367, .inl (x 3))), (qr, .inl (cr, n, .inl rr)), (qs, k_Si qc qg qr d), (qg, k_Sc g), (qo, .inr (3, [.int (o_31 0), .int (o_31 1), .int (o_31 2), .int (o_31 3), .int (o_31 4), .int (o_31 5), .int (o_31 6), .int (o_31 7), .int (o_31 8)]))] := hD
          refine lv_goto (tgt := 132) hx hb d_Si_lookAhead_117 (by decide) ?_
          have hP9 : va_P D vwCl ([(qs, k_Si qc qg qr d), (qr, .inl (cr, n, .inl rr)), (qc, k_Co qg ad), (qg, k_Sc g), (ad 0, .inl (ca 0, 367, .inl (x 0))), (ad 1, .inl (ca 1, 367, .inl (x 1))), (ad 2, .inl (ca 2, 367, .inl (x 2))), (ad 3, .inl (ca 3, 367, .inl (x 3))), (qo, k_Ou (mk9 (o_31 0) (o_31 1) (o_31 2) (o_31 3) (o_31 4) (o_31 5) (o_31 6) (o_31 7) (o_31 8)))]) H := hP.sub [6, 5, 0, 7, 1, 2, 3, 4, 8] rfl
          have hD9 : va_D A ([(qs, k_Si qc qg qr d), (qr, .inl (cr, n, .inl rr)), (qc, k_Co qg ad), (qg, k_Sc g), (ad 0, .inl (ca 0, 367, .inl (x 0))), (ad 1, .inl (ca 1, 367, .inl (x 1))), (ad 2, .inl (ca 2, 367, .inl (x 2))), (ad 3, .inl (ca 3, 367, .inl (x 3))), (qo, k_Ou (mk9 (o_31 0) (o_31 1) (o_31 2) (o_31 3) (o_31 4) (o_31 5) (o_31 6) (o_31 7) (o_31 8)))]) := hD.sub [6, 5, 0, 7, 1, 2, 3, 4, 8] (by decide) rfl
          exact W.vret hx hb hr (fun t ht hW => ⟨⟨(mk9 (o_31 0) (o_31 1) (o_31 2) (o_31 3) (o_31 4) (o_31 5) (o_31 6) (o_31 7) (o_31 8)), rfl, by rw [f_lookAhead, e_1, f_lookAhead_2, if_pos c_3, if_neg c_4, e_18, f_lookAhead_19, if_pos c_20, e_24, f_lookAhead_25, if_neg c_26, e_31, f_lookAhead_32], by rw [ht]; exact hP9, va_K.moved hW.alike (hK.sub [0, 1, 2, 3, 4] rfl), hD9⟩, hS.F ht⟩) hS.2.2 d_Si_lookAhead_132
  · refine lv_aload_n hx hb d_Si_lookAhead_20 rfl (lv_at hl 0 rfl) ?_
    refine lv_aload_n hx hb d_Si_lookAhead_21 rfl (lv_at hl 0 rfl) ?_
    refine va_get (D := D) (ci := 2) (v := .int (d 1)) (C := R_Si) (T := T_Si) (N := 9) hx hb hu in_Si hown hK hP 7 rfl rfl 3 (by decide) (hu _ hw_141) (fun _ h9 => h9) rfl d_Si_lookAhead_22 ?_
    refine lv_iconst (v := 1) hx hb d_Si_lookAhead_25 (by decide) ?_
    refine lv_isub hx hb d_Si_lookAhead_26 ?_
    refine vq_i (wr := [(qc, k_Co qg ad), (qg, k_Sc g), (ad 0, .inl (ca 0, 367, .inl (x 0))), (ad 1, .inl (ca 1, 367, .inl (x 1))), (ad 2, .inl (ca 2, 367, .inl (x 2))), (ad 3, .inl (ca 3, 367, .inl (x 3))), (qo, .inr (3, [.int (o 0), .int r_1, .int (o 2), .int (o 3), .int (o 4), .int (o 5), .int (o 6), .int (o 7), .int (o 8)]))]) (va_runV (As := [.int ((d 1) - 1)]) (rest := [.ref qo]) ⟨hx, hb, hml, hown, hts⟩ (c_rowAt l D sa H.size qs qr cr qc qg n d rr ((d 1) - 1) hn) (cwV 1 hts (vg_V (fun w h => List.mem_cons_of_mem _ h) hw_322 hw_323 hw_3 hw_35 hw_324) rfl rfl rfl (by decide +kernel) ⟨Nat.le_of_ble_eq_true rfl, Nat.le_of_ble_eq_true rfl⟩) (vq_pV hE hK hP hD [7, 8] [0] rfl (by decide) rfl 2 7 rfl rfl rfl) rfl rfl hl.1 rfl (lv_room (Nat.le_of_ble_eq_true rfl)) d_Si_lookAhead_27 ⟨Nat.le_of_ble_eq_true rfl, Nat.le_of_ble_eq_true rfl⟩) hP hD hS hA [7, 8] [0, 1, 2, 3, 4, 5, 6] rfl rfl (by decide) (by decide) (fun r_33 u_33 H locs e_33 hP hD hS => ?_)
    have hP : va_P D vwCl [(qc, k_Co qg ad), (qg, k_Sc g), (ad 0, .inl (ca 0, 367, .inl (x 0))), (ad 1, .inl (ca 1, 367, .inl (x 1))), (ad 2, .inl (ca 2, 367, .inl (x 2))), (ad 3, .inl (ca 3, 367, .inl (x 3))), (qo, .inr (3, [.int (o 0), .int r_1, .int (o 2), .int (o 3), .int (o 4), .int (o 5), .int (o 6), .int (o 7), .int (o 8)])), (qs, k_Si qc qg qr d), (qr, .inl (cr, n, .inl rr))] H := hP
    have hD : va_D A [(qc, k_Co qg ad), (qg, k_Sc g), (ad 0, .inl (ca 0, 367, .inl (x 0))), (ad 1, .inl (ca 1, 367, .inl (x 1))), (ad 2, .inl (ca 2, 367, .inl (x 2))), (ad 3, .inl (ca 3, 367, .inl (x 3))), (qo, .inr (3, [.int (o 0), .int r_1, .int (o 2), .int (o 3), .int (o 4), .int (o 5), .int (o 6), .int (o 7), .int (o 8)])), (qs, k_Si qc qg qr d), (qr, .inl (cr, n, .inl rr))] := hD
    refine lv_goto (tgt := 37) hx hb d_Si_lookAhead_30 (by decide) ?_
    refine va_put (D := D) (ci := 3) (v := .int r_33) (ty := .int) (C := R_Ou) (T := T_Ou) (N := 9) hx hb hu in_Ou t_Ou t_Ou_ok n_Ou hown hK hP hD hS 6 rfl rfl 0 (by decide) (hu _ hw_165) (fun _ h9 => h9) rfl (by decide +kernel) rfl rfl (Nat.le_of_ble_eq_true rfl) d_Si_lookAhead_37 (fun H locs hP hD hS => ?_)
    have hP : va_P D vwCl [(qc, k_Co qg ad), (qg, k_Sc g), (ad 0, .inl (ca 0, 367, .inl (x 0))), (ad 1, .inl (ca 1, 367, .inl (x 1))), (ad 2, .inl (ca 2, 367, .inl (x 2))), (ad 3, .inl (ca 3, 367, .inl (x 3))), (qo, .inr (3, [.int r_33, .int r_1, .int (o 2), .int (o 3), .int (o 4), .int (o 5), .int (o 6), .int (o 7), .int (o 8)])), (qs, k_Si qc qg qr d), (qr, .inl (cr, n, .inl rr))] H := hP
    have hD : va_D A [(qc, k_Co qg ad), (qg, k_Sc g), (ad 0, .inl (ca 0, 367, .inl (x 0))), (ad 1, .inl (ca 1, 367, .inl (x 1))), (ad 2, .inl (ca 2, 367, .inl (x 2))), (ad 3, .inl (ca 3, 367, .inl (x 3))), (qo, .inr (3, [.int r_33, .int r_1, .int (o 2), .int (o 3), .int (o 4), .int (o 5), .int (o 6), .int (o 7), .int (o 8)])), (qs, k_Si qc qg qr d), (qr, .inl (cr, n, .inl rr))] := hD
    refine lv_aload_n hx hb d_Si_lookAhead_40 rfl (lv_at hl 1 rfl) ?_
    refine lv_aload_n hx hb d_Si_lookAhead_41 rfl (lv_at hl 0 rfl) ?_
    refine va_get (D := D) (ci := 2) (v := .int (d 4)) (C := R_Si) (T := T_Si) (N := 9) hx hb hu in_Si hown hK hP 7 rfl rfl 7 (by decide) (hu _ hw_148) (fun _ h9 => h9) rfl d_Si_lookAhead_42 ?_
    refine va_put (D := D) (ci := 3) (v := .int (d 4)) (ty := .int) (C := R_Ou) (T := T_Ou) (N := 9) hx hb hu in_Ou t_Ou t_Ou_ok n_Ou hown hK hP hD hS 6 rfl rfl 2 (by decide) (hu _ hw_170) (fun _ h9 => h9) rfl (by decide +kernel) rfl rfl (Nat.le_of_ble_eq_true rfl) d_Si_lookAhead_45 (fun H locs hP hD hS => ?_)
    have hP : va_P D vwCl [(qc, k_Co qg ad), (qg, k_Sc g), (ad 0, .inl (ca 0, 367, .inl (x 0))), (ad 1, .inl (ca 1, 367, .inl (x 1))), (ad 2, .inl (ca 2, 367, .inl (x 2))), (ad 3, .inl (ca 3, 367, .inl (x 3))), (qo, .inr (3, [.int r_33, .int r_1, .int (d 4), .int (o 3), .int (o 4), .int (o 5), .int (o 6), .int (o 7), .int (o 8)])), (qs, k_Si qc qg qr d), (qr, .inl (cr, n, .inl rr))] H := hP
    have hD : va_D A [(qc, k_Co qg ad), (qg, k_Sc g), (ad 0, .inl (ca 0, 367, .inl (x 0))), (ad 1, .inl (ca 1, 367, .inl (x 1))), (ad 2, .inl (ca 2, 367, .inl (x 2))), (ad 3, .inl (ca 3, 367, .inl (x 3))), (qo, .inr (3, [.int r_33, .int r_1, .int (d 4), .int (o 3), .int (o 4), .int (o 5), .int (o 6), .int (o 7), .int (o 8)])), (qs, k_Si qc qg qr d), (qr, .inl (cr, n, .inl rr))] := hD
    refine lv_aload_n hx hb d_Si_lookAhead_48 rfl (lv_at hl 1 rfl) ?_
    refine lv_aload_n hx hb d_Si_lookAhead_49 rfl (lv_at hl 0 rfl) ?_
    refine va_get (D := D) (ci := 2) (v := .int (d 1)) (C := R_Si) (T := T_Si) (N := 9) hx hb hu in_Si hown hK hP 7 rfl rfl 3 (by decide) (hu _ hw_141) (fun _ h9 => h9) rfl d_Si_lookAhead_50 ?_
    refine lv_iconst (v := 1) hx hb d_Si_lookAhead_53 (by decide) ?_
    refine lv_iadd hx hb d_Si_lookAhead_54 ?_
    refine lv_aload_n hx hb d_Si_lookAhead_55 rfl (lv_at hl 0 rfl) ?_
    refine va_get (D := D) (ci := 2) (v := .int (d 0)) (C := R_Si) (T := T_Si) (N := 9) hx hb hu in_Si hown hK hP 7 rfl rfl 2 (by decide) (hu _ hw_140) (fun _ h9 => h9) rfl d_Si_lookAhead_56 ?_
    refine lv_icmp_ge (tgt := 75) hx hb d_Si_lookAhead_59 (by decide) (fun c_35 => ?_) (fun c_35 => ?_)
    · refine lv_aload_n hx hb d_Si_lookAhead_75 rfl (lv_at hl 1 rfl) ?_
      refine va_get (D := D) (ci := 3) (v := .int r_1) (C := R_Ou) (T := T_Ou) (N := 9) hx hb hu in_Ou hown hK hP 6 rfl rfl 1 (by decide) (hu _ hw_168) (fun _ h9 => h9) rfl d_Si_lookAhead_76 ?_
      refine va_put (D := D) (ci := 3) (v := .int r_1) (ty := .int) (C := R_Ou) (T := T_Ou) (N := 9) hx hb hu in_Ou t_Ou t_Ou_ok n_Ou hown hK hP hD hS 6 rfl rfl 3 (by decide) (hu _ hw_173) (fun _ h9 => h9) rfl (by decide +kernel) rfl rfl (Nat.le_of_ble_eq_true rfl) d_Si_lookAhead_79 (fun H locs hP hD hS => ?_)
      have hP : va_P D vwCl [(qc, k_Co qg ad), (qg, k_Sc g), (ad 0, .inl (ca 0, 367, .inl (x 0))), (ad 1, .inl (ca 1, 367, .inl (x 1))), (ad 2, .inl (ca 2, 367, .inl (x 2))), (ad 3, .inl (ca 3, 367, .inl (x 3))), (qo, .inr (3, [.int r_33, .int r_1, .int (d 4), .int r_1, .int (o 4), .int (o 5), .int (o 6), .int (o 7), .int (o 8)])), (qs, k_Si qc qg qr d), (qr, .inl (cr, n, .inl rr))] H := hP
      have hD : va_D A [(qc, k_Co qg ad), (qg, k_Sc g), (ad 0, .inl (ca 0, 367, .inl (x 0))), (ad 1, .inl (ca 1, 367, .inl (x 1))), (ad 2, .inl (ca 2, 367, .inl (x 2))), (ad 3, .inl (ca 3, 367, .inl (x 3))), (qo, .inr (3, [.int r_33, .int r_1, .int (d 4), .int r_1, .int (o 4), .int (o 5), .int (o 6), .int (o 7), .int (o 8)])), (qs, k_Si qc qg qr d), (qr, .inl (cr, n, .inl rr))] := hD
      refine lv_aload_n hx hb d_Si_lookAhead_82 rfl (lv_at hl 1 rfl) ?_
      refine lv_aload_n hx hb d_Si_lookAhead_83 rfl (lv_at hl 0 rfl) ?_
      refine va_get (D := D) (ci := 2) (v := .int (d 3)) (C := R_Si) (T := T_Si) (N := 9) hx hb hu in_Si hown hK hP 7 rfl rfl 5 (by decide) (hu _ hw_145) (fun _ h9 => h9) rfl d_Si_lookAhead_84 ?_
      refine lv_if_ne (tgt := 98) hx hb d_Si_lookAhead_87 (by decide) (fun c_36 => ?_) (fun c_36 => ?_)
      · refine lv_iconst (v := 1) hx hb d_Si_lookAhead_98 (by decide) ?_
        refine lv_goto (tgt := 103) hx hb d_Si_lookAhead_99 (by decide) ?_
        refine va_put (D := D) (ci := 3) (v := .int 1) (ty := .boolean) (C := R_Ou) (T := T_Ou) (N := 9) hx hb hu in_Ou t_Ou t_Ou_ok n_Ou hown hK hP hD hS 6 rfl rfl 4 (by decide) (hu _ hw_176) (fun _ h9 => h9) rfl (by decide +kernel) rfl rfl (Nat.le_of_ble_eq_true rfl) d_Si_lookAhead_103 (fun H locs hP hD hS => ?_)
        have hP : va_P D vwCl [(qc, k_Co qg ad), (qg, k_Sc g), (ad 0, .inl (ca 0, 367, .inl (x 0))), (ad 1, .inl (ca 1, 367, .inl (x 1))), (ad 2, .inl (ca 2, 367, .inl (x 2))), (ad 3, .inl (ca 3, 367, .inl (x 3))), (qo, .inr (3, [.int r_33, .int r_1, .int (d 4), .int r_1, .int 1, .int (o 5), .int (o 6), .int (o 7), .int (o 8)])), (qs, k_Si qc qg qr d), (qr, .inl (cr, n, .inl rr))] H := hP
        have hD : va_D A [(qc, k_Co qg ad), (qg, k_Sc g), (ad 0, .inl (ca 0, 367, .inl (x 0))), (ad 1, .inl (ca 1, 367, .inl (x 1))), (ad 2, .inl (ca 2, 367, .inl (x 2))), (ad 3, .inl (ca 3, 367, .inl (x 3))), (qo, .inr (3, [.int r_33, .int r_1, .int (d 4), .int r_1, .int 1, .int (o 5), .int (o 6), .int (o 7), .int (o 8)])), (qs, k_Si qc qg qr d), (qr, .inl (cr, n, .inl rr))] := hD
        refine lv_aload_n hx hb d_Si_lookAhead_106 rfl (lv_at hl 1 rfl) ?_
        refine va_get (D := D) (ci := 3) (v := .int 1) (C := R_Ou) (T := T_Ou) (N := 9) hx hb hu in_Ou hown hK hP 6 rfl rfl 4 (by decide) (hu _ hw_176) (fun _ h9 => h9) rfl d_Si_lookAhead_107 ?_
        refine lv_if_eq (tgt := 120) hx hb d_Si_lookAhead_110 (by decide) (fun c_37 => absurd c_37 (by decide)) (fun c_37 => ?_)
        refine lv_aload_n hx hb d_Si_lookAhead_113 rfl (lv_at hl 1 rfl) ?_
        refine vq_v (wr := [(qc, k_Co qg ad), (qg, k_Sc g), (ad 0, .inl (ca 0, 367, .inl (x 0))), (ad 1, .inl (ca 1, 367, .inl (x 1))), (ad 2, .inl (ca 2, 367, .inl (x 2))), (ad 3, .inl (ca 3, 367, .inl (x 3))), (qs, k_Si qc qg qr d), (qr, .inl (cr, n, .inl rr))]) (va_runV (As := []) (rest := []) ⟨hx, hb, hml, hown, hts⟩ (c_expectRun l D sa H.size qo (mk9 r_33 r_1 (d 4) r_1 1 (o 5) (o 6) (o 7) (o 8))) (cwV 0 hts (vg_V (fun w h => List.mem_cons_of_mem _ h) hw_335 hw_336 hw_337 hw_38 hw_338) rfl rfl rfl (by decide +kernel) ⟨Nat.le_of_ble_eq_true rfl, Nat.le_of_ble_eq_true rfl⟩) (vq_pV hE hK hP hD [6] [] rfl (by decide) rfl 3 6 rfl rfl rfl) rfl rfl hl.1 rfl (lv_room (Nat.le_of_ble_eq_true rfl)) d_Si_lookAhead_114 ⟨Nat.le_of_ble_eq_true rfl, Nat.le_of_ble_eq_true rfl⟩) hP hD hS hA [6] [0, 1, 2, 3, 4, 5, 7, 8] rfl rfl (by decide) (by decide) (fun o_38 H locs e_38 hP hD hS => ?_)
        have hP : va_P D vwCl [(qc, k_Co qg ad), (qg, k_Sc g), (ad 0, .inl (ca 0, 367, .inl (x 0))), (ad 1, .inl (ca 1, 367, .inl (x 1))), (ad 2, .inl (ca 2, 367, .inl (x 2))), (ad 3, .inl (ca 3, 367, .inl (x 3))), (qs, k_Si qc qg qr d), (qr, .inl (cr, n, .inl rr)), (qo, .inr (3, [.int (o_38 0), .int (o_38 1), .int (o_38 2), .int (o_38 3), .int (o_38 4), .int (o_38 5), .int (o_38 6), .int (o_38 7), .int (o_38 8)]))] H := hP
        have hD : va_D A [(qc, k_Co qg ad), (qg, k_Sc g), (ad 0, .inl (ca 0, 367, .inl (x 0))), (ad 1, .inl (ca 1, 367, .inl (x 1))), (ad 2, .inl (ca 2, 367, .inl (x 2))), (ad 3, .inl (ca 3, 367, .inl (x 3))), (qs, k_Si qc qg qr d), (qr, .inl (cr, n, .inl rr)), (qo, .inr (3, [.int (o_38 0), .int (o_38 1), .int (o_38 2), .int (o_38 3), .int (o_38 4), .int (o_38 5), .int (o_38 6), .int (o_38 7), .int (o_38 8)]))] := hD
        refine lv_goto (tgt := 132) hx hb d_Si_lookAhead_117 (by decide) ?_
        have hP9 : va_P D vwCl ([(qs, k_Si qc qg qr d), (qr, .inl (cr, n, .inl rr)), (qc, k_Co qg ad), (qg, k_Sc g), (ad 0, .inl (ca 0, 367, .inl (x 0))), (ad 1, .inl (ca 1, 367, .inl (x 1))), (ad 2, .inl (ca 2, 367, .inl (x 2))), (ad 3, .inl (ca 3, 367, .inl (x 3))), (qo, k_Ou (mk9 (o_38 0) (o_38 1) (o_38 2) (o_38 3) (o_38 4) (o_38 5) (o_38 6) (o_38 7) (o_38 8)))]) H := hP.sub [6, 7, 0, 1, 2, 3, 4, 5, 8] rfl
        have hD9 : va_D A ([(qs, k_Si qc qg qr d), (qr, .inl (cr, n, .inl rr)), (qc, k_Co qg ad), (qg, k_Sc g), (ad 0, .inl (ca 0, 367, .inl (x 0))), (ad 1, .inl (ca 1, 367, .inl (x 1))), (ad 2, .inl (ca 2, 367, .inl (x 2))), (ad 3, .inl (ca 3, 367, .inl (x 3))), (qo, k_Ou (mk9 (o_38 0) (o_38 1) (o_38 2) (o_38 3) (o_38 4) (o_38 5) (o_38 6) (o_38 7) (o_38 8)))]) := hD.sub [6, 7, 0, 1, 2, 3, 4, 5, 8] (by decide) rfl
        exact W.vret hx hb hr (fun t ht hW => ⟨⟨(mk9 (o_38 0) (o_38 1) (o_38 2) (o_38 3) (o_38 4) (o_38 5) (o_38 6) (o_38 7) (o_38 8)), rfl, by rw [f_lookAhead, e_1, f_lookAhead_2, if_neg c_3, e_33, f_lookAhead_34, if_pos c_35, if_neg c_36, e_38, f_lookAhead_39], by rw [ht]; exact hP9, va_K.moved hW.alike (hK.sub [0, 1, 2, 3, 4] rfl), hD9⟩, hS.F ht⟩) hS.2.2 d_Si_lookAhead_132
      · refine lv_aload_n hx hb d_Si_lookAhead_90 rfl (lv_at hl 0 rfl) ?_
        refine lv_aload_n hx hb d_Si_lookAhead_91 rfl (lv_at hl 1 rfl) ?_
        refine vq_i (wr := [(qc, k_Co qg ad), (ad 0, .inl (ca 0, 367, .inl (x 0))), (ad 1, .inl (ca 1, 367, .inl (x 1))), (ad 2, .inl (ca 2, 367, .inl (x 2))), (ad 3, .inl (ca 3, 367, .inl (x 3))), (qr, .inl (cr, n, .inl rr))]) (va_runV (As := [.ref qo]) (rest := [.ref qo]) ⟨hx, hb, hml, hown, hts⟩ (c_isFlatAround l D sa H.size qs qo qc qg qr g d (mk9 r_33 r_1 (d 4) r_1 (o 4) (o 5) (o 6) (o 7) (o 8))) (cwV 1 hts (vg_V (fun w h => List.mem_cons_of_mem _ h) hw_325 hw_326 hw_4 hw_35 hw_327) rfl rfl rfl (by decide +kernel) ⟨Nat.le_of_ble_eq_true rfl, Nat.le_of_ble_eq_true rfl⟩) (vq_pV hE hK hP hD [7, 6, 1] [] rfl (by decide) rfl 2 7 rfl rfl rfl) rfl rfl hl.1 rfl (lv_room (Nat.le_of_ble_eq_true rfl)) d_Si_lookAhead_92 ⟨Nat.le_of_ble_eq_true rfl, Nat.le_of_ble_eq_true rfl⟩) hP hD hS hA [7, 6, 1] [0, 2, 3, 4, 5, 8] rfl rfl (by decide) (by decide) (fun r_40 u_40 H locs e_40 hP hD hS => ?_)
        have hP : va_P D vwCl [(qc, k_Co qg ad), (ad 0, .inl (ca 0, 367, .inl (x 0))), (ad 1, .inl (ca 1, 367, .inl (x 1))), (ad 2, .inl (ca 2, 367, .inl (x 2))), (ad 3, .inl (ca 3, 367, .inl (x 3))), (qr, .inl (cr, n, .inl rr)), (qs, k_Si qc qg qr d), (qo, .inr (3, [.int r_33, .int r_1, .int (d 4), .int r_1, .int (o 4), .int (o 5), .int (o 6), .int (o 7), .int (o 8)])), (qg, k_Sc g)] H := hP
        have hD : va_D A [(qc, k_Co qg ad), (ad 0, .inl (ca 0, 367, .inl (x 0))), (ad 1, .inl (ca 1, 367, .inl (x 1))), (ad 2, .inl (ca 2, 367, .inl (x 2))), (ad 3, .inl (ca 3, 367, .inl (x 3))), (qr, .inl (cr, n, .inl rr)), (qs, k_Si qc qg qr d), (qo, .inr (3, [.int r_33, .int r_1, .int (d 4), .int r_1, .int (o 4), .int (o 5), .int (o 6), .int (o 7), .int (o 8)])), (qg, k_Sc g)] := hD
        refine lv_if_eq (tgt := 102) hx hb d_Si_lookAhead_95 (by decide) (fun c_42 => ?_) (fun c_42 => ?_)
        · refine lv_iconst (v := 0) hx hb d_Si_lookAhead_102 (by decide) ?_
          refine va_put (D := D) (ci := 3) (v := .int 0) (ty := .boolean) (C := R_Ou) (T := T_Ou) (N := 9) hx hb hu in_Ou t_Ou t_Ou_ok n_Ou hown hK hP hD hS 7 rfl rfl 4 (by decide) (hu _ hw_176) (fun _ h9 => h9) rfl (by decide +kernel) rfl rfl (Nat.le_of_ble_eq_true rfl) d_Si_lookAhead_103 (fun H locs hP hD hS => ?_)
          have hP : va_P D vwCl [(qc, k_Co qg ad), (ad 0, .inl (ca 0, 367, .inl (x 0))), (ad 1, .inl (ca 1, 367, .inl (x 1))), (ad 2, .inl (ca 2, 367, .inl (x 2))), (ad 3, .inl (ca 3, 367, .inl (x 3))), (qr, .inl (cr, n, .inl rr)), (qs, k_Si qc qg qr d), (qo, .inr (3, [.int r_33, .int r_1, .int (d 4), .int r_1, .int 0, .int (o 5), .int (o 6), .int (o 7), .int (o 8)])), (qg, k_Sc g)] H := hP
          have hD : va_D A [(qc, k_Co qg ad), (ad 0, .inl (ca 0, 367, .inl (x 0))), (ad 1, .inl (ca 1, 367, .inl (x 1))), (ad 2, .inl (ca 2, 367, .inl (x 2))), (ad 3, .inl (ca 3, 367, .inl (x 3))), (qr, .inl (cr, n, .inl rr)), (qs, k_Si qc qg qr d), (qo, .inr (3, [.int r_33, .int r_1, .int (d 4), .int r_1, .int 0, .int (o 5), .int (o 6), .int (o 7), .int (o 8)])), (qg, k_Sc g)] := hD
          refine lv_aload_n hx hb d_Si_lookAhead_106 rfl (lv_at hl 1 rfl) ?_
          refine va_get (D := D) (ci := 3) (v := .int 0) (C := R_Ou) (T := T_Ou) (N := 9) hx hb hu in_Ou hown hK hP 7 rfl rfl 4 (by decide) (hu _ hw_176) (fun _ h9 => h9) rfl d_Si_lookAhead_107 ?_
          refine lv_if_eq (tgt := 120) hx hb d_Si_lookAhead_110 (by decide) (fun c_43 => ?_) (fun c_43 => absurd c_43 (by decide))
          refine lv_aload_n hx hb d_Si_lookAhead_120 rfl (lv_at hl 1 rfl) ?_
          refine lv_aload_n hx hb d_Si_lookAhead_121 rfl (lv_at hl 0 rfl) ?_
          refine va_get (D := D) (ci := 2) (v := .ref qg) (C := R_Si) (T := T_Si) (N := 9) hx hb hu in_Si hown hK hP 6 rfl rfl 1 (by decide) (hu _ hw_139) (fun _ h9 => h9) rfl d_Si_lookAhead_122 ?_
          refine lv_aload_n hx hb d_Si_lookAhead_125 rfl (lv_at hl 0 rfl) ?_
          refine va_get (D := D) (ci := 2) (v := .ref qc) (C := R_Si) (T := T_Si) (N := 9) hx hb hu in_Si hown hK hP 6 rfl rfl 0 (by decide) (hu _ hw_137) (fun _ h9 => h9) rfl d_Si_lookAhead_126 ?_
          refine vq_v (wr := [(qr, .inl (cr, n, .inl rr)), (qs, k_Si qc qg qr d)]) (va_runV (As := [.ref qg, .ref qc]) (rest := []) ⟨hx, hb, hml, hown, hts⟩ (c_expectByGradients l D sa H.size qo qc qg ad ca g x (mk9 r_33 r_1 (d 4) r_1 0 (o 5) (o 6) (o 7) (o 8))) (cwV 2 hts (vg_V (fun w h => List.mem_cons_of_mem _ h) hw_339 hw_340 hw_341 hw_38 hw_342) rfl rfl rfl (by decide +kernel) ⟨Nat.le_of_ble_eq_true rfl, Nat.le_of_ble_eq_true rfl⟩) (vq_pV hE hK hP hD [7, 0, 8, 1, 2, 3, 4] [1, 2, 3, 4] rfl (by decide) rfl 3 7 rfl rfl rfl) rfl rfl hl.1 rfl (lv_room (Nat.le_of_ble_eq_true rfl)) d_Si_lookAhead_129 ⟨Nat.le_of_ble_eq_true rfl, Nat.le_of_ble_eq_true rfl⟩) hP hD hS hA [7, 0, 8, 1, 2, 3, 4] [5, 6] rfl rfl (by decide) (by decide) (fun o_44 H locs e_44 hP hD hS => ?_)
          have hP : va_P D vwCl [(qr, .inl (cr, n, .inl rr)), (qs, k_Si qc qg qr d), (qo, .inr (3, [.int (o_44 0), .int (o_44 1), .int (o_44 2), .int (o_44 3), .int (o_44 4), .int (o_44 5), .int (o_44 6), .int (o_44 7), .int (o_44 8)])), (qc, k_Co qg ad), (qg, k_Sc g), (ad 0, .inl (ca 0, 367, .inl (x 0))), (ad 1, .inl (ca 1, 367, .inl (x 1))), (ad 2, .inl (ca 2, 367, .inl (x 2))), (ad 3, .inl (ca 3, 367, .inl (x 3)))] H := hP
          have hD : va_D A [(qr, .inl (cr, n, .inl rr)), (qs, k_Si qc qg qr d), (qo, .inr (3, [.int (o_44 0), .int (o_44 1), .int (o_44 2), .int (o_44 3), .int (o_44 4), .int (o_44 5), .int (o_44 6), .int (o_44 7), .int (o_44 8)])), (qc, k_Co qg ad), (qg, k_Sc g), (ad 0, .inl (ca 0, 367, .inl (x 0))), (ad 1, .inl (ca 1, 367, .inl (x 1))), (ad 2, .inl (ca 2, 367, .inl (x 2))), (ad 3, .inl (ca 3, 367, .inl (x 3)))] := hD
          have hP9 : va_P D vwCl ([(qs, k_Si qc qg qr d), (qr, .inl (cr, n, .inl rr)), (qc, k_Co qg ad), (qg, k_Sc g), (ad 0, .inl (ca 0, 367, .inl (x 0))), (ad 1, .inl (ca 1, 367, .inl (x 1))), (ad 2, .inl (ca 2, 367, .inl (x 2))), (ad 3, .inl (ca 3, 367, .inl (x 3))), (qo, k_Ou (mk9 (o_44 0) (o_44 1) (o_44 2) (o_44 3) (o_44 4) (o_44 5) (o_44 6) (o_44 7) (o_44 8)))]) H := hP.sub [1, 0, 3, 4, 5, 6, 7, 8, 2] rfl
          have hD9 : va_D A ([(qs, k_Si qc qg qr d), (qr, .inl (cr, n, .inl rr)), (qc, k_Co qg ad), (qg, k_Sc g), (ad 0, .inl (ca 0, 367, .inl (x 0))), (ad 1, .inl (ca 1, 367, .inl (x 1))), (ad 2, .inl (ca 2, 367, .inl (x 2))), (ad 3, .inl (ca 3, 367, .inl (x 3))), (qo, k_Ou (mk9 (o_44 0) (o_44 1) (o_44 2) (o_44 3) (o_44 4) (o_44 5) (o_44 6) (o_44 7) (o_44 8)))]) := hD.sub [1, 0, 3, 4, 5, 6, 7, 8, 2] (by decide) rfl
          exact W.vret hx hb hr (fun t ht hW => ⟨⟨(mk9 (o_44 0) (o_44 1) (o_44 2) (o_44 3) (o_44 4) (o_44 5) (o_44 6) (o_44 7) (o_44 8)), rfl, by rw [f_lookAhead, e_1, f_lookAhead_2, if_neg c_3, e_33, f_lookAhead_34, if_pos c_35, if_pos c_36, e_40, f_lookAhead_41, if_pos c_42, e_44, f_lookAhead_45], by rw [ht]; exact hP9, va_K.moved hW.alike (hK.sub [0, 1, 2, 3, 4] rfl), hD9⟩, hS.F ht⟩) hS.2.2 d_Si_lookAhead_132
        · refine lv_iconst (v := 1) hx hb d_Si_lookAhead_98 (by decide) ?_
          refine lv_goto (tgt := 103) hx hb d_Si_lookAhead_99 (by decide) ?_
          refine va_put (D := D) (ci := 3) (v := .int 1) (ty := .boolean) (C := R_Ou) (T := T_Ou) (N := 9) hx hb hu in_Ou t_Ou t_Ou_ok n_Ou hown hK hP hD hS 7 rfl rfl 4 (by decide) (hu _ hw_176) (fun _ h9 => h9) rfl (by decide +kernel) rfl rfl (Nat.le_of_ble_eq_true rfl) d_Si_lookAhead_103 (fun H locs hP hD hS => ?_)
          have hP : va_P D vwCl [(qc, k_Co qg ad), (ad 0, .inl (ca 0, 367, .inl (x 0))), (ad 1, .inl (ca 1, 367, .inl (x 1))), (ad 2, .inl (ca 2, 367, .inl (x 2))), (ad 3, .inl (ca 3, 367, .inl (x 3))), (qr, .inl (cr, n, .inl rr)), (qs, k_Si qc qg qr d), (qo, .inr (3, [.int r_33, .int r_1, .int (d 4), .int r_1, .int 1, .int (o 5), .int (o 6), .int (o 7), .int (o 8)])), (qg, k_Sc g)] H := hP
          have hD : va_D A [(qc, k_Co qg ad), (ad 0, .inl (ca 0, 367, .inl (x 0))), (ad 1, .inl (ca 1, 367, .inl (x 1))), (ad 2, .inl (ca 2, 367, .inl (x 2))), (ad 3, .inl (ca 3, 367, .inl (x 3))), (qr, .inl (cr, n, .inl rr)), (qs, k_Si qc qg qr d), (qo, .inr (3, [.int r_33, .int r_1, .int (d 4), .int r_1, .int 1, .int (o 5), .int (o 6), .int (o 7), .int (o 8)])), (qg, k_Sc g)] := hD
          refine lv_aload_n hx hb d_Si_lookAhead_106 rfl (lv_at hl 1 rfl) ?_
          refine va_get (D := D) (ci := 3) (v := .int 1) (C := R_Ou) (T := T_Ou) (N := 9) hx hb hu in_Ou hown hK hP 7 rfl rfl 4 (by decide) (hu _ hw_176) (fun _ h9 => h9) rfl d_Si_lookAhead_107 ?_
          refine lv_if_eq (tgt := 120) hx hb d_Si_lookAhead_110 (by decide) (fun c_46 => absurd c_46 (by decide)) (fun c_46 => ?_)
          refine lv_aload_n hx hb d_Si_lookAhead_113 rfl (lv_at hl 1 rfl) ?_
          refine vq_v (wr := [(qc, k_Co qg ad), (ad 0, .inl (ca 0, 367, .inl (x 0))), (ad 1, .inl (ca 1, 367, .inl (x 1))), (ad 2, .inl (ca 2, 367, .inl (x 2))), (ad 3, .inl (ca 3, 367, .inl (x 3))), (qr, .inl (cr, n, .inl rr)), (qs, k_Si qc qg qr d), (qg, k_Sc g)]) (va_runV (As := []) (rest := []) ⟨hx, hb, hml, hown, hts⟩ (c_expectRun l D sa H.size qo (mk9 r_33 r_1 (d 4) r_1 1 (o 5) (o 6) (o 7) (o 8))) (cwV 0 hts (vg_V (fun w h => List.mem_cons_of_mem _ h) hw_335 hw_336 hw_337 hw_38 hw_338) rfl rfl rfl (by decide +kernel) ⟨Nat.le_of_ble_eq_true rfl, Nat.le_of_ble_eq_true rfl⟩) (vq_pV hE hK hP hD [7] [] rfl (by decide) rfl 3 7 rfl rfl rfl) rfl rfl hl.1 rfl (lv_room (Nat.le_of_ble_eq_true rfl)) d_Si_lookAhead_114 ⟨Nat.le_of_ble_eq_true rfl, Nat.le_of_ble_eq_true rfl⟩) hP hD hS hA [7] [0, 1, 2, 3, 4, 5, 6, 8] rfl rfl (by decide) (by decide) (fun o_47 H locs e_47 hP hD hS => ?_)
          have hP : va_P D vwCl [(qc, k_Co qg ad), (ad 0, .inl (ca 0, 367, .inl (x 0))), (ad 1, .inl (ca 1, 367, .inl (x 1))), (ad 2, .inl (ca 2, 367, .inl (x 2))), (ad 3, .inl (ca 3, 367, .inl (x 3))), (qr, .inl (cr, n, .inl rr)), (qs, k_Si qc qg qr d), (qg, k_Sc g), (qo, .inr (3, [.int (o_47 0), .int (o_47 1), .int (o_47 2), .int (o_47 3), .int (o_47 4), .int (o_47 5), .int (o_47 6), .int (o_47 7), .int (o_47 8)]))] H := hP
          have hD : va_D A [(qc, k_Co qg ad), (ad 0, .inl (ca 0, 367, .inl (x 0))), (ad 1, .inl (ca 1, 367, .inl (x 1))), (ad 2, .inl (ca 2, 367, .inl (x 2))), (ad 3, .inl (ca 3, 367, .inl (x 3))), (qr, .inl (cr, n, .inl rr)), (qs, k_Si qc qg qr d), (qg, k_Sc g), (qo, .inr (3, [.int (o_47 0), .int (o_47 1), .int (o_47 2), .int (o_47 3), .int (o_47 4), .int (o_47 5), .int (o_47 6), .int (o_47 7), .int (o_47 8)]))] := hD
          refine lv_goto (tgt := 132) hx hb d_Si_lookAhead_117 (by decide) ?_
          have hP9 : va_P D vwCl ([(qs, k_Si qc qg qr d), (qr, .inl (cr, n, .inl rr)), (qc, k_Co qg ad), (qg, k_Sc g), (ad 0, .inl (ca 0, 367, .inl (x 0))), (ad 1, .inl (ca 1, 367, .inl (x 1))), (ad 2, .inl (ca 2, 367, .inl (x 2))), (ad 3, .inl (ca 3, 367, .inl (x 3))), (qo, k_Ou (mk9 (o_47 0) (o_47 1) (o_47 2) (o_47 3) (o_47 4) (o_47 5) (o_47 6) (o_47 7) (o_47 8)))]) H := hP.sub [6, 5, 0, 7, 1, 2, 3, 4, 8] rfl
          have hD9 : va_D A ([(qs, k_Si qc qg qr d), (qr, .inl (cr, n, .inl rr)), (qc, k_Co qg ad), (qg, k_Sc g), (ad 0, .inl (ca 0, 367, .inl (x 0))), (ad 1, .inl (ca 1, 367, .inl (x 1))), (ad 2, .inl (ca 2, 367, .inl (x 2))), (ad 3, .inl (ca 3, 367, .inl (x 3))), (qo, k_Ou (mk9 (o_47 0) (o_47 1) (o_47 2) (o_47 3) (o_47 4) (o_47 5) (o_47 6) (o_47 7) (o_47 8)))]) := hD.sub [6, 5, 0, 7, 1, 2, 3, 4, 8] (by decide) rfl
          exact W.vret hx hb hr (fun t ht hW => ⟨⟨(mk9 (o_47 0) (o_47 1) (o_47 2) (o_47 3) (o_47 4) (o_47 5) (o_47 6) (o_47 7) (o_47 8)), rfl, by rw [f_lookAhead, e_1, f_lookAhead_2, if_neg c_3, e_33, f_lookAhead_34, if_pos c_35, if_pos c_36, e_40, f_lookAhead_41, if_neg c_42, e_47, f_lookAhead_48], by rw [ht]; exact hP9, va_K.moved hW.alike (hK.sub [0, 1, 2, 3, 4] rfl), hD9⟩, hS.F ht⟩) hS.2.2 d_Si_lookAhead_132
    · refine lv_aload_n hx hb d_Si_lookAhead_62 rfl (lv_at hl 0 rfl) ?_
      refine lv_aload_n hx hb d_Si_lookAhead_63 rfl (lv_at hl 0 rfl) ?_
      refine va_get (D := D) (ci := 2) (v := .int (d 1)) (C := R_Si) (T := T_Si) (N := 9) hx hb hu in_Si hown hK hP 7 rfl rfl 3 (by decide) (hu _ hw_141) (fun _ h9 => h9) rfl d_Si_lookAhead_64 ?_
      refine lv_iconst (v := 1) hx hb d_Si_lookAhead_67 (by decide) ?_
      refine lv_iadd hx hb d_Si_lookAhead_68 ?_
      refine vq_i (wr := [(qc, k_Co qg ad), (qg, k_Sc g), (ad 0, .inl (ca 0, 367, .inl (x 0))), (ad 1, .inl (ca 1, 367, .inl (x 1))), (ad 2, .inl (ca 2, 367, .inl (x 2))), (ad 3, .inl (ca 3, 367, .inl (x 3))), (qo, .inr (3, [.int r_33, .int r_1, .int (d 4), .int (o 3), .int (o 4), .int (o 5), .int (o 6), .int (o 7), .int (o 8)]))]) (va_runV (As := [.int ((d 1) + 1)]) (rest := [.ref qo]) ⟨hx, hb, hml, hown, hts⟩ (c_rowAt l D sa H.size qs qr cr qc qg n d rr ((d 1) + 1) hn) (cwV 1 hts (vg_V (fun w h => List.mem_cons_of_mem _ h) hw_322 hw_323 hw_3 hw_35 hw_324) rfl rfl rfl (by decide +kernel) ⟨Nat.le_of_ble_eq_true rfl, Nat.le_of_ble_eq_true rfl⟩) (vq_pV hE hK hP hD [7, 8] [0] rfl (by decide) rfl 2 7 rfl rfl rfl) rfl rfl hl.1 rfl (lv_room (Nat.le_of_ble_eq_true rfl)) d_Si_lookAhead_69 ⟨Nat.le_of_ble_eq_true rfl, Nat.le_of_ble_eq_true rfl⟩) hP hD hS hA [7, 8] [0, 1, 2, 3, 4, 5, 6] rfl rfl (by decide) (by decide) (fun r_49 u_49 H locs e_49 hP hD hS => ?_)
      have hP : va_P D vwCl [(qc, k_Co qg ad), (qg, k_Sc g), (ad 0, .inl (ca 0, 367, .inl (x 0))), (ad 1, .inl (ca 1, 367, .inl (x 1))), (ad 2, .inl (ca 2, 367, .inl (x 2))), (ad 3, .inl (ca 3, 367, .inl (x 3))), (qo, .inr (3, [.int r_33, .int r_1, .int (d 4), .int (o 3), .int (o 4), .int (o 5), .int (o 6), .int (o 7), .int (o 8)])), (qs, k_Si qc qg qr d), (qr, .inl (cr, n, .inl rr))] H := hP
      have hD : va_D A [(qc, k_Co qg ad), (qg, k_Sc g), (ad 0, .inl (ca 0, 367, .inl (x 0))), (ad 1, .inl (ca 1, 367, .inl (x 1))), (ad 2, .inl (ca 2, 367, .inl (x 2))), (ad 3, .inl (ca 3, 367, .inl (x 3))), (qo, .inr (3, [.int r_33, .int r_1, .int (d 4), .int (o 3), .int (o 4), .int (o 5), .int (o 6), .int (o 7), .int (o 8)])), (qs, k_Si qc qg qr d), (qr, .inl (cr, n, .inl rr))] := hD
      refine lv_goto (tgt := 79) hx hb d_Si_lookAhead_72 (by decide) ?_
      refine va_put (D := D) (ci := 3) (v := .int r_49) (ty := .int) (C := R_Ou) (T := T_Ou) (N := 9) hx hb hu in_Ou t_Ou t_Ou_ok n_Ou hown hK hP hD hS 6 rfl rfl 3 (by decide) (hu _ hw_173) (fun _ h9 => h9) rfl (by decide +kernel) rfl rfl (Nat.le_of_ble_eq_true rfl) d_Si_lookAhead_79 (fun H locs hP hD hS => ?_)
      have hP : va_P D vwCl [(qc, k_Co qg ad), (qg, k_Sc g), (ad 0, .inl (ca 0, 367, .inl (x 0))), (ad 1, .inl (ca 1, 367, .inl (x 1))), (ad 2, .inl (ca 2, 367, .inl (x 2))), (ad 3, .inl (ca 3, 367, .inl (x 3))), (qo, .inr (3, [.int r_33, .int r_1, .int (d 4), .int r_49, .int (o 4), .int (o 5), .int (o 6), .int (o 7), .int (o 8)])), (qs, k_Si qc qg qr d), (qr, .inl (cr, n, .inl rr))] H := hP
      have hD : va_D A [(qc, k_Co qg ad), (qg, k_Sc g), (ad 0, .inl (ca 0, 367, .inl (x 0))), (ad 1, .inl (ca 1, 367, .inl (x 1))), (ad 2, .inl (ca 2, 367, .inl (x 2))), (ad 3, .inl (ca 3, 367, .inl (x 3))), (qo, .inr (3, [.int r_33, .int r_1, .int (d 4), .int r_49, .int (o 4), .int (o 5), .int (o 6), .int (o 7), .int (o 8)])), (qs, k_Si qc qg qr d), (qr, .inl (cr, n, .inl rr))] := hD
      refine lv_aload_n hx hb d_Si_lookAhead_82 rfl (lv_at hl 1 rfl) ?_
      refine lv_aload_n hx hb d_Si_lookAhead_83 rfl (lv_at hl 0 rfl) ?_
      refine va_get (D := D) (ci := 2) (v := .int (d 3)) (C := R_Si) (T := T_Si) (N := 9) hx hb hu in_Si hown hK hP 7 rfl rfl 5 (by decide) (hu _ hw_145) (fun _ h9 => h9) rfl d_Si_lookAhead_84 ?_
      refine lv_if_ne (tgt := 98) hx hb d_Si_lookAhead_87 (by decide) (fun c_51 => ?_) (fun c_51 => ?_)
      · refine lv_iconst (v := 1) hx hb d_Si_lookAhead_98 (by decide) ?_
        refine lv_goto (tgt := 103) hx hb d_Si_lookAhead_99 (by decide) ?_
        refine va_put (D := D) (ci := 3) (v := .int 1) (ty := .boolean) (C := R_Ou) (T := T_Ou) (N := 9) hx hb hu in_Ou t_Ou t_Ou_ok n_Ou hown hK hP hD hS 6 rfl rfl 4 (by decide) (hu _ hw_176) (fun _ h9 => h9) rfl (by decide +kernel) rfl rfl (Nat.le_of_ble_eq_true rfl) d_Si_lookAhead_103 (fun H locs hP hD hS => ?_)
        have hP : va_P D vwCl [(qc, k_Co qg ad), (qg, k_Sc g), (ad 0, .inl (ca 0, 367, .inl (x 0))), (ad 1, .inl (ca 1, 367, .inl (x 1))), (ad 2, .inl (ca 2, 367, .inl (x 2))), (ad 3, .inl (ca 3, 367, .inl (x 3))), (qo, .inr (3, [.int r_33, .int r_1, .int (d 4), .int r_49, .int 1, .int (o 5), .int (o 6), .int (o 7), .int (o 8)])), (qs, k_Si qc qg qr d), (qr, .inl (cr, n, .inl rr))] H := hP
        have hD : va_D A [(qc, k_Co qg ad), (qg, k_Sc g), (ad 0, .inl (ca 0, 367, .inl (x 0))), (ad 1, .inl (ca 1, 367, .inl (x 1))), (ad 2, .inl (ca 2, 367, .inl (x 2))), (ad 3, .inl (ca 3, 367, .inl (x 3))), (qo, .inr (3, [.int r_33, .int r_1, .int (d 4), .int r_49, .int 1, .int (o 5), .int (o 6), .int (o 7), .int (o 8)])), (qs, k_Si qc qg qr d), (qr, .inl (cr, n, .inl rr))] := hD
        refine lv_aload_n hx hb d_Si_lookAhead_106 rfl (lv_at hl 1 rfl) ?_
        refine va_get (D := D) (ci := 3) (v := .int 1) (C := R_Ou) (T := T_Ou) (N := 9) hx hb hu in_Ou hown hK hP 6 rfl rfl 4 (by decide) (hu _ hw_176) (fun _ h9 => h9) rfl d_Si_lookAhead_107 ?_
        refine lv_if_eq (tgt := 120) hx hb d_Si_lookAhead_110 (by decide) (fun c_52 => absurd c_52 (by decide)) (fun c_52 => ?_)
        refine lv_aload_n hx hb d_Si_lookAhead_113 rfl (lv_at hl 1 rfl) ?_
        refine vq_v (wr := [(qc, k_Co qg ad), (qg, k_Sc g), (ad 0, .inl (ca 0, 367, .inl (x 0))), (ad 1, .inl (ca 1, 367, .inl (x 1))), (ad 2, .inl (ca 2, 367, .inl (x 2))), (ad 3, .inl (ca 3, 367, .inl (x 3))), (qs, k_Si qc qg qr d), (qr, .inl (cr, n, .inl rr))]) (va_runV (As := []) (rest := []) ⟨hx, hb, hml, hown, hts⟩ (c_expectRun l D sa H.size qo (mk9 r_33 r_1 (d 4) r_49 1 (o 5) (o 6) (o 7) (o 8))) (cwV 0 hts (vg_V (fun w h => List.mem_cons_of_mem _ h) hw_335 hw_336 hw_337 hw_38 hw_338) rfl rfl rfl (by decide +kernel) ⟨Nat.le_of_ble_eq_true rfl, Nat.le_of_ble_eq_true rfl⟩) (vq_pV hE hK hP hD [6] [] rfl (by decide) rfl 3 6 rfl rfl rfl) rfl rfl hl.1 rfl (lv_room (Nat.le_of_ble_eq_true rfl)) d_Si_lookAhead_114 ⟨Nat.le_of_ble_eq_true rfl, Nat.le_of_ble_eq_true rfl⟩) hP hD hS hA [6] [0, 1, 2, 3, 4, 5, 7, 8] rfl rfl (by decide) (by decide) (fun o_53 H locs e_53 hP hD hS => ?_)
        have hP : va_P D vwCl [(qc, k_Co qg ad), (qg, k_Sc g), (ad 0, .inl (ca 0, 367, .inl (x 0))), (ad 1, .inl (ca 1, 367, .inl (x 1))), (ad 2, .inl (ca 2, 367, .inl (x 2))), (ad 3, .inl (ca 3, 367, .inl (x 3))), (qs, k_Si qc qg qr d), (qr, .inl (cr, n, .inl rr)), (qo, .inr (3, [.int (o_53 0), .int (o_53 1), .int (o_53 2), .int (o_53 3), .int (o_53 4), .int (o_53 5), .int (o_53 6), .int (o_53 7), .int (o_53 8)]))] H := hP
        have hD : va_D A [(qc, k_Co qg ad), (qg, k_Sc g), (ad 0, .inl (ca 0, 367, .inl (x 0))), (ad 1, .inl (ca 1, 367, .inl (x 1))), (ad 2, .inl (ca 2, 367, .inl (x 2))), (ad 3, .inl (ca 3, 367, .inl (x 3))), (qs, k_Si qc qg qr d), (qr, .inl (cr, n, .inl rr)), (qo, .inr (3, [.int (o_53 0), .int (o_53 1), .int (o_53 2), .int (o_53 3), .int (o_53 4), .int (o_53 5), .int (o_53 6), .int (o_53 7), .int (o_53 8)]))] := hD
        refine lv_goto (tgt := 132) hx hb d_Si_lookAhead_117 (by decide) ?_
        have hP9 : va_P D vwCl ([(qs, k_Si qc qg qr d), (qr, .inl (cr, n, .inl rr)), (qc, k_Co qg ad), (qg, k_Sc g), (ad 0, .inl (ca 0, 367, .inl (x 0))), (ad 1, .inl (ca 1, 367, .inl (x 1))), (ad 2, .inl (ca 2, 367, .inl (x 2))), (ad 3, .inl (ca 3, 367, .inl (x 3))), (qo, k_Ou (mk9 (o_53 0) (o_53 1) (o_53 2) (o_53 3) (o_53 4) (o_53 5) (o_53 6) (o_53 7) (o_53 8)))]) H := hP.sub [6, 7, 0, 1, 2, 3, 4, 5, 8] rfl
        have hD9 : va_D A ([(qs, k_Si qc qg qr d), (qr, .inl (cr, n, .inl rr)), (qc, k_Co qg ad), (qg, k_Sc g), (ad 0, .inl (ca 0, 367, .inl (x 0))), (ad 1, .inl (ca 1, 367, .inl (x 1))), (ad 2, .inl (ca 2, 367, .inl (x 2))), (ad 3, .inl (ca 3, 367, .inl (x 3))), (qo, k_Ou (mk9 (o_53 0) (o_53 1) (o_53 2) (o_53 3) (o_53 4) (o_53 5) (o_53 6) (o_53 7) (o_53 8)))]) := hD.sub [6, 7, 0, 1, 2, 3, 4, 5, 8] (by decide) rfl
        exact W.vret hx hb hr (fun t ht hW => ⟨⟨(mk9 (o_53 0) (o_53 1) (o_53 2) (o_53 3) (o_53 4) (o_53 5) (o_53 6) (o_53 7) (o_53 8)), rfl, by rw [f_lookAhead, e_1, f_lookAhead_2, if_neg c_3, e_33, f_lookAhead_34, if_neg c_35, e_49, f_lookAhead_50, if_neg c_51, e_53, f_lookAhead_54], by rw [ht]; exact hP9, va_K.moved hW.alike (hK.sub [0, 1, 2, 3, 4] rfl), hD9⟩, hS.F ht⟩) hS.2.2 d_Si_lookAhead_132
      · refine lv_aload_n hx hb d_Si_lookAhead_90 rfl (lv_at hl 0 rfl) ?_
        refine lv_aload_n hx hb d_Si_lookAhead_91 rfl (lv_at hl 1 rfl) ?_
        refine vq_i (wr := [(qc, k_Co qg ad), (ad 0, .inl (ca 0, 367, .inl (x 0))), (ad 1, .inl (ca 1, 367, .inl (x 1))), (ad 2, .inl (ca 2, 367, .inl (x 2))), (ad 3, .inl (ca 3, 367, .inl (x 3))), (qr, .inl (cr, n, .inl rr))]) (va_runV (As := [.ref qo]) (rest := [.ref qo]) ⟨hx, hb, hml, hown, hts⟩ (c_isFlatAround l D sa H.size qs qo qc qg qr g d (mk9 r_33 r_1 (d 4) r_49 (o 4) (o 5) (o 6) (o 7) (o 8))) (cwV 1 hts (vg_V (fun w h => List.mem_cons_of_mem _ h) hw_325 hw_326 hw_4 hw_35 hw_327) rfl rfl rfl (by decide +kernel) ⟨Nat.le_of_ble_eq_true rfl, Nat.le_of_ble_eq_true rfl⟩) (vq_pV hE hK hP hD [7, 6, 1] [] rfl (by decide) rfl 2 7 rfl rfl rfl) rfl rfl hl.1 rfl (lv_room (Nat.le_of_ble_eq_true rfl)) d_Si_lookAhead_92 ⟨Nat.le_of_ble_eq_true rfl, Nat.le_of_ble_eq_true rfl⟩) hP hD hS hA [7, 6, 1] [0, 2, 3, 4, 5, 8] rfl rfl (by decide) (by decide) (fun r_55 u_55 H locs e_55 hP hD hS => ?_)
        have hP : va_P D vwCl [(qc, k_Co qg ad), (ad 0, .inl (ca 0, 367, .inl (x 0))), (ad 1, .inl (ca 1, 367, .inl (x 1))), (ad 2, .inl (ca 2, 367, .inl (x 2))), (ad 3, .inl (ca 3, 367, .inl (x 3))), (qr, .inl (cr, n, .inl rr)), (qs, k_Si qc qg qr d), (qo, .inr (3, [.int r_33, .int r_1, .int (d 4), .int r_49, .int (o 4), .int (o 5), .int (o 6), .int (o 7), .int (o 8)])), (qg, k_Sc g)] H := hP
        have hD : va_D A [(qc, k_Co qg ad), (ad 0, .inl (ca 0, 367, .inl (x 0))), (ad 1, .inl (ca 1, 367, .inl (x 1))), (ad 2, .inl (ca 2, 367, .inl (x 2))), (ad 3, .inl (ca 3, 367, .inl (x 3))), (qr, .inl (cr, n, .inl rr)), (qs, k_Si qc qg qr d), (qo, .inr (3, [.int r_33, .int r_1, .int (d 4), .int r_49, .int (o 4), .int (o 5), .int (o 6), .int (o 7), .int (o 8)])), (qg, k_Sc g)] := hD
        refine lv_if_eq (tgt := 102) hx hb d_Si_lookAhead_95 (by decide) (fun c_57 => ?_) (fun c_57 => ?_)
        · refine lv_iconst (v := 0) hx hb d_Si_lookAhead_102 (by decide) ?_
          refine va_put (D := D) (ci := 3) (v := .int 0) (ty := .boolean) (C := R_Ou) (T := T_Ou) (N := 9) hx hb hu in_Ou t_Ou t_Ou_ok n_Ou hown hK hP hD hS 7 rfl rfl 4 (by decide) (hu _ hw_176) (fun _ h9 => h9) rfl (by decide +kernel) rfl rfl (Nat.le_of_ble_eq_true rfl) d_Si_lookAhead_103 (fun H locs hP hD hS => ?_)
          have hP : va_P D vwCl [(qc, k_Co qg ad), (ad 0, .inl (ca 0, 367, .inl (x 0))), (ad 1, .inl (ca 1, 367, .inl (x 1))), (ad 2, .inl (ca 2, 367, .inl (x 2))), (ad 3, .inl (ca 3, 367, .inl (x 3))), (qr, .inl (cr, n, .inl rr)), (qs, k_Si qc qg qr d), (qo, .inr (3, [.int r_33, .int r_1, .int (d 4), .int r_49, .int 0, .int (o 5), .int (o 6), .int (o 7), .int (o 8)])), (qg, k_Sc g)] H := hP
          have hD : va_D A [(qc, k_Co qg ad), (ad 0, .inl (ca 0, 367, .inl (x 0))), (ad 1, .inl (ca 1, 367, .inl (x 1))), (ad 2, .inl (ca 2, 367, .inl (x 2))), (ad 3, .inl (ca 3, 367, .inl (x 3))), (qr, .inl (cr, n, .inl rr)), (qs, k_Si qc qg qr d), (qo, .inr (3, [.int r_33, .int r_1, .int (d 4), .int r_49, .int 0, .int (o 5), .int (o 6), .int (o 7), .int (o 8)])), (qg, k_Sc g)] := hD
          refine lv_aload_n hx hb d_Si_lookAhead_106 rfl (lv_at hl 1 rfl) ?_
          refine va_get (D := D) (ci := 3) (v := .int 0) (C := R_Ou) (T := T_Ou) (N := 9) hx hb hu in_Ou hown hK hP 7 rfl rfl 4 (by decide) (hu _ hw_176) (fun _ h9 => h9) rfl d_Si_lookAhead_107 ?_
          refine lv_if_eq (tgt := 120) hx hb d_Si_lookAhead_110 (by decide) (fun c_58 => ?_) (fun c_58 => absurd c_58 (by decide))
          refine lv_aload_n hx hb d_Si_lookAhead_120 rfl (lv_at hl 1 rfl) ?_
          refine lv_aload_n hx hb d_Si_lookAhead_121 rfl (lv_at hl 0 rfl) ?_
          refine va_get (D := D) (ci := 2) (v := .ref qg) (C := R_Si) (T := T_Si) (N := 9) hx hb hu in_Si hown hK hP 6 rfl rfl 1 (by decide) (hu _ hw_139) (fun _ h9 => h9) rfl d_Si_lookAhead_122 ?_
          refine lv_aload_n hx hb d_Si_lookAhead_125 rfl (lv_at hl 0 rfl) ?_
          refine va_get (D := D) (ci := 2) (v := .ref qc) (C := R_Si) (T := T_Si) (N := 9) hx hb hu in_Si hown hK hP 6 rfl rfl 0 (by decide) (hu _ hw_137) (fun _ h9 => h9) rfl d_Si_lookAhead_126 ?_
          refine vq_v (wr := [(qr, .inl (cr, n, .inl rr)), (qs, k_Si qc qg qr d)]) (va_runV (As := [.ref qg, .ref qc]) (rest := []) ⟨hx, hb, hml, hown, hts⟩ (c_expectByGradients l D sa H.size qo qc qg ad ca g x (mk9 r_33 r_1 (d 4) r_49 0 (o 5) (o 6) (o 7) (o 8))) (cwV 2 hts (vg_V (fun w h => List.mem_cons_of_mem _ h) hw_339 hw_340 hw_341 hw_38 hw_342) rfl rfl rfl (by decide +kernel) ⟨Nat.le_of_ble_eq_true rfl, Nat.le_of_ble_eq_true rfl⟩) (vq_pV hE hK hP hD [7, 0, 8, 1, 2, 3, 4] [1, 2, 3, 4] rfl (by decide) rfl 3 7 rfl rfl rfl) rfl rfl hl.1 rfl (lv_room (Nat.le_of_ble_eq_true rfl)) d_Si_lookAhead_129 ⟨Nat.le_of_ble_eq_true rfl, Nat.le_of_ble_eq_true rfl⟩) hP hD hS hA [7, 0, 8, 1, 2, 3, 4] [5, 6] rfl rfl (by decide) (by decide) (fun o_59 H locs e_59 hP hD hS => ?_)
          have hP : va_P D vwCl [(qr, .inl (cr, n, .inl rr)), (qs, k_Si qc qg qr d), (qo, .inr (3, [.int (o_59 0), .int (o_59 1), .int (o_59 2), .int (o_59 3), .int (o_59 4), .int (o_59 5), .int (o_59 6), .int (o_59 7), .int (o_59 8)])), (qc, k_Co qg ad), (qg, k_Sc g), (ad 0, .inl (ca 0, 367, .inl (x 0))), (ad 1, .inl (ca 1, 367, .inl (x 1))), (ad 2, .inl (ca 2, 367, .inl (x 2))), (ad 3, .inl (ca 3, 367, .inl (x 3)))] H := hP
          have hD : va_D A [(qr, .inl (cr, n, .inl rr)), (qs, k_Si qc qg qr d), (qo, .inr (3, [.int (o_59 0), .int (o_59 1), .int (o_59 2), .int (o_59 3), .int (o_59 4), .int (o_59 5), .int (o_59 6), .int (o_59 7), .int (o_59 8)])), (qc, k_Co qg ad), (qg, k_Sc g), (ad 0, .inl (ca 0, 367, .inl (x 0))), (ad 1, .inl (ca 1, 367, .inl (x 1))), (ad 2, .inl (ca 2, 367, .inl (x 2))), (ad 3, .inl (ca 3, 367, .inl (x 3)))] := hD
          have hP9 : va_P D vwCl ([(qs, k_Si qc qg qr d), (qr, .inl (cr, n, .inl rr)), (qc, k_Co qg ad), (qg, k_Sc g), (ad 0, .inl (ca 0, 367, .inl (x 0))), (ad 1, .inl (ca 1, 367, .inl (x 1))), (ad 2, .inl (ca 2, 367, .inl (x 2))), (ad 3, .inl (ca 3, 367, .inl (x 3))), (qo, k_Ou (mk9 (o_59 0) (o_59 1) (o_59 2) (o_59 3) (o_59 4) (o_59 5) (o_59 6) (o_59 7) (o_59 8)))]) H := hP.sub [1, 0, 3, 4, 5, 6, 7, 8, 2] rfl
          have hD9 : va_D A ([(qs, k_Si qc qg qr d), (qr, .inl (cr, n, .inl rr)), (qc, k_Co qg ad), (qg, k_Sc g), (ad 0, .inl (ca 0, 367, .inl (x 0))), (ad 1, .inl (ca 1, 367, .inl (x 1))), (ad 2, .inl (ca 2, 367, .inl (x 2))), (ad 3, .inl (ca 3, 367, .inl (x 3))), (qo, k_Ou (mk9 (o_59 0) (o_59 1) (o_59 2) (o_59 3) (o_59 4) (o_59 5) (o_59 6) (o_59 7) (o_59 8)))]) := hD.sub [1, 0, 3, 4, 5, 6, 7, 8, 2] (by decide) rfl
          exact W.vret hx hb hr (fun t ht hW => ⟨⟨(mk9 (o_59 0) (o_59 1) (o_59 2) (o_59 3) (o_59 4) (o_59 5) (o_59 6) (o_59 7) (o_59 8)), rfl, by rw [f_lookAhead, e_1, f_lookAhead_2, if_neg c_3, e_33, f_lookAhead_34, if_neg c_35, e_49, f_lookAhead_50, if_pos c_51, e_55, f_lookAhead_56, if_pos c_57, e_59, f_lookAhead_60], by rw [ht]; exact hP9, va_K.moved hW.alike (hK.sub [0, 1, 2, 3, 4] rfl), hD9⟩, hS.F ht⟩) hS.2.2 d_Si_lookAhead_132
        · refine lv_iconst (v := 1) hx hb d_Si_lookAhead_98 (by decide) ?_
          refine lv_goto (tgt := 103) hx hb d_Si_lookAhead_99 (by decide) ?_
          refine va_put (D := D) (ci := 3) (v := .int 1) (ty := .boolean) (C := R_Ou) (T := T_Ou) (N := 9) hx hb hu in_Ou t_Ou t_Ou_ok n_Ou hown hK hP hD hS 7 rfl rfl 4 (by decide) (hu _ hw_176) (fun _ h9 => h9) rfl (by decide +kernel) rfl rfl (Nat.le_of_ble_eq_true rfl) d_Si_lookAhead_103 (fun H locs hP hD hS => ?_)
          have hP : va_P D vwCl [(qc, k_Co qg ad), (ad 0, .inl (ca 0, 367, .inl (x 0))), (ad 1, .inl (ca 1, 367, .inl (x 1))), (ad 2, .inl (ca 2, 367, .inl (x 2))), (ad 3, .inl (ca 3, 367, .inl (x 3))), (qr, .inl (cr, n, .inl rr)), (qs, k_Si qc qg qr d), (qo, .inr (3, [.int r_33, .int r_1, .int (d 4), .int r_49, .int 1, .int (o 5), .int (o 6), .int (o 7), .int (o 8)])), (qg, k_Sc g)] H := hP
          have hD : va_D A [(qc, k_Co qg ad), (ad 0, .inl (ca 0, 367, .inl (x 0))), (ad 1, .inl (ca 1, 367, .inl (x 1))), (ad 2, .inl (ca 2, 367, .inl (x 2))), (ad 3, .inl (ca 3, 367, .inl (x 3))), (qr, .inl (cr, n, .inl rr)), (qs, k_Si qc qg qr d), (qo, .inr (3, [.int r_33, .int r_1, .int (d 4), .int r_49, .int 1, .int (o 5), .int (o 6), .int (o 7), .int (o 8)])), (qg, k_Sc g)] := hD
          refine lv_aload_n hx hb d_Si_lookAhead_106 rfl (lv_at hl 1 rfl) ?_
          refine va_get (D := D) (ci := 3) (v := .int 1) (C := R_Ou) (T := T_Ou) (N := 9) hx hb hu in_Ou hown hK hP 7 rfl rfl 4 (by decide) (hu _ hw_176) (fun _ h9 => h9) rfl d_Si_lookAhead_107 ?_
          refine lv_if_eq (tgt := 120) hx hb d_Si_lookAhead_110 (by decide) (fun c_61 => absurd c_61 (by decide)) (fun c_61 => ?_)
          refine lv_aload_n hx hb d_Si_lookAhead_113 rfl (lv_at hl 1 rfl) ?_
          refine vq_v (wr := [(qc, k_Co qg ad), (ad 0, .inl (ca 0, 367, .inl (x 0))), (ad 1, .inl (ca 1, 367, .inl (x 1))), (ad 2, .inl (ca 2, 367, .inl (x 2))), (ad 3, .inl (ca 3, 367, .inl (x 3))), (qr, .inl (cr, n, .inl rr)), (qs, k_Si qc qg qr d), (qg, k_Sc g)]) (va_runV (As := []) (rest := []) ⟨hx, hb, hml, hown, hts⟩ (c_expectRun l D sa H.size qo (mk9 r_33 r_1 (d 4) r_49 1 (o 5) (o 6) (o 7) (o 8))) (cwV 0 hts (vg_V (fun w h => List.mem_cons_of_mem _ h) hw_335 hw_336 hw_337 hw_38 hw_338) rfl rfl rfl (by decide +kernel) ⟨Nat.le_of_ble_eq_true rfl, Nat.le_of_ble_eq_true rfl⟩) (vq_pV hE hK hP hD [7] [] rfl (by decide) rfl 3 7 rfl rfl rfl) rfl rfl hl.1 rfl (lv_room (Nat.le_of_ble_eq_true rfl)) d_Si_lookAhead_114 ⟨Nat.le_of_ble_eq_true rfl, Nat.le_of_ble_eq_true rfl⟩) hP hD hS hA [7] [0, 1, 2, 3, 4, 5, 6, 8] rfl rfl (by decide) (by decide) (fun o_62 H locs e_62 hP hD hS => ?_)
          have hP : va_P D vwCl [(qc, k_Co qg ad), (ad 0, .inl (ca 0, 367, .inl (x 0))), (ad 1, .inl (ca 1, 367, .inl (x 1))), (ad 2, .inl (ca 2, 367, .inl (x 2))), (ad 3, .inl (ca 3, 367, .inl (x 3))), (qr, .inl (cr, n, .inl rr)), (qs, k_Si qc qg qr d), (qg, k_Sc g), (qo, .inr (3, [.int (o_62 0), .int (o_62 1), .int (o_62 2), .int (o_62 3), .int (o_62 4), .int (o_62 5), .int (o_62 6), .int (o_62 7), .int (o_62 8)]))] H := hP
          have hD : va_D A [(qc, k_Co qg ad), (ad 0, .inl (ca 0, 367, .inl (x 0))), (ad 1, .inl (ca 1, 367, .inl (x 1))), (ad 2, .inl (ca 2, 367, .inl (x 2))), (ad 3, .inl (ca 3, 367, .inl (x 3))), (qr, .inl (cr, n, .inl rr)), (qs, k_Si qc qg qr d), (qg, k_Sc g), (qo, .inr (3, [.int (o_62 0), .int (o_62 1), .int (o_62 2), .int (o_62 3), .int (o_62 4), .int (o_62 5), .int (o_62 6), .int (o_62 7), .int (o_62 8)]))] := hD
          refine lv_goto (tgt := 132) hx hb d_Si_lookAhead_117 (by decide) ?_
          have hP9 : va_P D vwCl ([(qs, k_Si qc qg qr d), (qr, .inl (cr, n, .inl rr)), (qc, k_Co qg ad), (qg, k_Sc g), (ad 0, .inl (ca 0, 367, .inl (x 0))), (ad 1, .inl (ca 1, 367, .inl (x 1))), (ad 2, .inl (ca 2, 367, .inl (x 2))), (ad 3, .inl (ca 3, 367, .inl (x 3))), (qo, k_Ou (mk9 (o_62 0) (o_62 1) (o_62 2) (o_62 3) (o_62 4) (o_62 5) (o_62 6) (o_62 7) (o_62 8)))]) H := hP.sub [6, 5, 0, 7, 1, 2, 3, 4, 8] rfl
          have hD9 : va_D A ([(qs, k_Si qc qg qr d), (qr, .inl (cr, n, .inl rr)), (qc, k_Co qg ad), (qg, k_Sc g), (ad 0, .inl (ca 0, 367, .inl (x 0))), (ad 1, .inl (ca 1, 367, .inl (x 1))), (ad 2, .inl (ca 2, 367, .inl (x 2))), (ad 3, .inl (ca 3, 367, .inl (x 3))), (qo, k_Ou (mk9 (o_62 0) (o_62 1) (o_62 2) (o_62 3) (o_62 4) (o_62 5) (o_62 6) (o_62 7) (o_62 8)))]) := hD.sub [6, 5, 0, 7, 1, 2, 3, 4, 8] (by decide) rfl
          exact W.vret hx hb hr (fun t ht hW => ⟨⟨(mk9 (o_62 0) (o_62 1) (o_62 2) (o_62 3) (o_62 4) (o_62 5) (o_62 6) (o_62 7) (o_62 8)), rfl, by rw [f_lookAhead, e_1, f_lookAhead_2, if_neg c_3, e_33, f_lookAhead_34, if_neg c_35, e_49, f_lookAhead_50, if_pos c_51, e_55, f_lookAhead_56, if_neg c_57, e_62, f_lookAhead_63], by rw [ht]; exact hP9, va_K.moved hW.alike (hK.sub [0, 1, 2, 3, 4] rfl), hD9⟩, hS.F ht⟩) hS.2.2 d_Si_lookAhead_132
