def f_expectRun (o : Nat → Int32) : Nat → Int32 := (mk9 (o 0) (o 1) (o 2) (o 3) (o 4) 0 1 (o 0) (o 8))
set_option maxHeartbeats 4000000 in
set_option maxRecDepth 100000 in
theorem c_expectRun (l : Launch) (D : va_G) (sa : Nat → Nat) (sz : Nat) (qo : Nat) (o : Nat → Int32)  : Met l y_Ou_expectRun w_Ou_expectRun ({ frames := 0, cells := 0, slots := 0, locals := 0 }) (va_Pc [.ref qo] (vq_pre D sa [(qo, k_Ou o)] [] sz)) (va_Qv (fun (u : (Nat → Int32)) => f_expectRun o = u) (vq_B D (va_A [(qo, k_Ou o)] sz) [] (fun (u : (Nat → Int32)) => [(qo, k_Ou u)])) (va_A [(qo, k_Ou o)] sz)) 0 0 (va_A [(qo, k_Ou o)] sz) := by
  refine Met.ofW (cc := b_Ou_expectRun) (maxL := 1) (ret := none) (by decide) rfl ?_
  intro p e s m args below meth c s₁ B hml hv
  obtain ⟨rfl, hsz, hP, hK, hD0, hE⟩ := hv
  have hx := B.exec
  have hb := B.bytes
  have hr := B.returns
  have hts := atoms_spec (ws := w_Ou_expectRun) B.pre
  have hu : ∀ w9 ∈ vU, Cond.before w9 ([.ref qo]).toArray s = true := fun w9 h => hts w9 (List.mem_cons_of_mem _ h)
  have hown : s.vm.findClass R_Ou = some m.cls := findClass_of_methodNamed B.named
  have hlocks := B.notSynchronized
  subst hsz
  have hD := hD0.self (sz := s.heap.size)
  generalize hAe : va_A [(qo, k_Ou o)] s.heap.size = A at hD ⊢
  have hA : ∀ q : Nat, s.heap.size ≤ q → A q := fun q h => by rw [← hAe]; exact Or.inr h
  have hS : va_S A s.heap s.heap [] := va_S.rf
  have hP : va_P D vwCl [(qo, k_Ou o)] s.heap := hP
  have hl := lv_entry ([.ref qo]) (n := 1) (Nat.le_of_ble_eq_true rfl)
  rw [lg_entry_eq]
  generalize (lg_sl ([.ref qo]) ++ List.replicate (1 - (lg_sl ([.ref qo])).length) Slot.unset).toArray = ls at hl ⊢
  have hl : lv_has ls 1 [(0, .ref qo)] := hl
  refine lv_aload_n hx hb d_Ou_expectRun_0 rfl (lv_at hl 0 rfl) ?_
  refine lv_iconst (v := 0) hx hb d_Ou_expectRun_1 (by decide) ?_
  refine va_put (D := D) (ci := 3) (v := .int 0) (ty := .int) (C := R_Ou) (T := T_Ou) (N := 9) hx hb hu in_Ou t_Ou t_Ou_ok n_Ou hown hK hP hD hS 0 rfl rfl 5 (by decide) (hu _ hw_178) (fun _ h9 => h9) rfl (by decide +kernel) rfl rfl (Nat.le_of_ble_eq_true rfl) d_Ou_expectRun_2 (fun H locs hP hD hS => ?_)
  have hP : va_P D vwCl [(qo, .inr (3, [.int (o 0), .int (o 1), .int (o 2), .int (o 3), .int (o 4), .int 0, .int (o 6), .int (o 7), .int (o 8)]))] H := hP
  have hD : va_D A [(qo, .inr (3, [.int (o 0), .int (o 1), .int (o 2), .int (o 3), .int (o 4), .int 0, .int (o 6), .int (o 7), .int (o 8)]))] := hD
  refine lv_aload_n hx hb d_Ou_expectRun_5 rfl (lv_at hl 0 rfl) ?_
  refine lv_iconst (v := 1) hx hb d_Ou_expectRun_6 (by decide) ?_
  refine va_put (D := D) (ci := 3) (v := .int 1) (ty := .int) (C := R_Ou) (T := T_Ou) (N := 9) hx hb hu in_Ou t_Ou t_Ou_ok n_Ou hown hK hP hD hS 0 rfl rfl 6 (by decide) (hu _ hw_180) (fun _ h9 => h9) rfl (by decide +kernel) rfl rfl (Nat.le_of_ble_eq_true rfl) d_Ou_expectRun_7 (fun H locs hP hD hS => ?_)
  have hP : va_P D vwCl [(qo, .inr (3, [.int (o 0), .int (o 1), .int (o 2), .int (o 3), .int (o 4), .int 0, .int 1, .int (o 7), .int (o 8)]))] H := hP
  have hD : va_D A [(qo, .inr (3, [.int (o 0), .int (o 1), .int (o 2), .int (o 3), .int (o 4), .int 0, .int 1, .int (o 7), .int (o 8)]))] := hD
  refine lv_aload_n hx hb d_Ou_expectRun_10 rfl (lv_at hl 0 rfl) ?_
  refine lv_aload_n hx hb d_Ou_expectRun_11 rfl (lv_at hl 0 rfl) ?_
  refine va_get (D := D) (ci := 3) (v := .int (o 0)) (C := R_Ou) (T := T_Ou) (N := 9) hx hb hu in_Ou hown hK hP 0 rfl rfl 0 (by decide) (hu _ hw_164) (fun _ h9 => h9) rfl d_Ou_expectRun_12 ?_
  refine va_put (D := D) (ci := 3) (v := .int (o 0)) (ty := .int) (C := R_Ou) (T := T_Ou) (N := 9) hx hb hu in_Ou t_Ou t_Ou_ok n_Ou hown hK hP hD hS 0 rfl rfl 7 (by decide) (hu _ hw_182) (fun _ h9 => h9) rfl (by decide +kernel) rfl rfl (Nat.le_of_ble_eq_true rfl) d_Ou_expectRun_15 (fun H locs hP hD hS => ?_)
  have hP : va_P D vwCl [(qo, .inr (3, [.int (o 0), .int (o 1), .int (o 2), .int (o 3), .int (o 4), .int 0, .int 1, .int (o 0), .int (o 8)]))] H := hP
  have hD : va_D A [(qo, .inr (3, [.int (o 0), .int (o 1), .int (o 2), .int (o 3), .int (o 4), .int 0, .int 1, .int (o 0), .int (o 8)]))] := hD
  have hP9 : va_P D vwCl ([(qo, k_Ou (mk9 (o 0) (o 1) (o 2) (o 3) (o 4) 0 1 (o 0) (o 8)))]) H := hP.sub [0] rfl
  have hD9 : va_D A ([(qo, k_Ou (mk9 (o 0) (o 1) (o 2) (o 3) (o 4) 0 1 (o 0) (o 8)))]) := hD.sub [0] (by decide) rfl
  exact W.vret hx hb hr (fun t ht hW => ⟨⟨(mk9 (o 0) (o 1) (o 2) (o 3) (o 4) 0 1 (o 0) (o 8)), rfl, by rw [f_expectRun], by rw [ht]; exact hP9, va_K.moved hW.alike (hK.sub [] rfl), hD9⟩, hS.F ht⟩) hS.2.2 d_Ou_expectRun_18
def f_median (o : Nat → Int32) : Int32 :=
  if (o 2) < (jmax (o 0) (o 1)) then
    if (jmin (o 0) (o 1)) < (o 2) then ((o 0) + (o 1)) - (o 2)
    else jmax (o 0) (o 1)
  else jmin (o 0) (o 1)
set_option maxHeartbeats 4000000 in
set_option maxRecDepth 100000 in
theorem c_median (l : Launch) (D : va_G) (sa : Nat → Nat) (sz : Nat) (qo : Nat) (o : Nat → Int32)  : Met l y_Ou_median w_Ou_median ({ frames := 1, cells := 0, slots := 0, locals := 14 }) (va_Pc [.ref qo] (vq_pre D sa [(qo, k_Ou o)] [] sz)) (va_Qi (fun (r0 : Int32) (u : Unit) => f_median o = r0) (vq_B D (va_A [(qo, k_Ou o)] sz) [] (fun (u : Unit) => [(qo, k_Ou o)])) (va_A [(qo, k_Ou o)] sz)) 0 0 (va_A [(qo, k_Ou o)] sz) := by
  refine Met.ofW (cc := b_Ou_median) (maxL := 1) (ret := (some .int)) (by decide) rfl ?_
  intro p e s m args below meth c s₁ B hml hv
  obtain ⟨rfl, hsz, hP, hK, hD0, hE⟩ := hv
  have hx := B.exec
  have hb := B.bytes
  have hr := B.returns
  have hts := atoms_spec (ws := w_Ou_median) B.pre
  have hu : ∀ w9 ∈ vU, Cond.before w9 ([.ref qo]).toArray s = true := fun w9 h => hts w9 (List.mem_cons_of_mem _ h)
  have hown : s.vm.findClass R_Ou = some m.cls := findClass_of_methodNamed B.named
  have hlocks := B.notSynchronized
  subst hsz
  have hD := hD0.self (sz := s.heap.size)
  generalize hAe : va_A [(qo, k_Ou o)] s.heap.size = A at hD ⊢
  have hA : ∀ q : Nat, s.heap.size ≤ q → A q := fun q h => by rw [← hAe]; exact Or.inr h
  have hS : va_S A s.heap s.heap [] := va_S.rf
  have hP : va_P D vwCl [(qo, k_Ou o)] s.heap := hP
  have hl := lv_entry ([.ref qo]) (n := 1) (Nat.le_of_ble_eq_true rfl)
  rw [lg_entry_eq]
  generalize (lg_sl ([.ref qo]) ++ List.replicate (1 - (lg_sl ([.ref qo])).length) Slot.unset).toArray = ls at hl ⊢
  have hl : lv_has ls 1 [(0, .ref qo)] := hl
  refine lv_aload_n hx hb d_Ou_median_0 rfl (lv_at hl 0 rfl) ?_
  refine va_get (D := D) (ci := 3) (v := .int (o 2)) (C := R_Ou) (T := T_Ou) (N := 9) hx hb hu in_Ou hown hK hP 0 rfl rfl 2 (by decide) (hu _ hw_171) (fun _ h9 => h9) rfl d_Ou_median_1 ?_
  refine lv_aload_n hx hb d_Ou_median_4 rfl (lv_at hl 0 rfl) ?_
  refine va_get (D := D) (ci := 3) (v := .int (o 0)) (C := R_Ou) (T := T_Ou) (N := 9) hx hb hu in_Ou hown hK hP 0 rfl rfl 0 (by decide) (hu _ hw_164) (fun _ h9 => h9) rfl d_Ou_median_5 ?_
  refine lv_aload_n hx hb d_Ou_median_8 rfl (lv_at hl 0 rfl) ?_
  refine va_get (D := D) (ci := 3) (v := .int (o 1)) (C := R_Ou) (T := T_Ou) (N := 9) hx hb hu in_Ou hown hK hP 0 rfl rfl 1 (by decide) (hu _ hw_167) (fun _ h9 => h9) rfl d_Ou_median_9 ?_
  refine va_mmax hx hb (hml.trans hl.1.symm) hown (hu _ hw_350) (hu _ hw_62) (hu _ hw_33) (hu _ hw_63) (Nat.le_of_ble_eq_true rfl) (Nat.le_of_ble_eq_true rfl) (Nat.le_of_ble_eq_true rfl) (Nat.le_of_ble_eq_true rfl) d_Ou_median_12 ?_
  refine W.eq (g2 := F0 m 15 ls [.int (jmax (o 0) (o 1)), .int (o 2)]) rfl ?_
  refine lv_icmp_lt (tgt := 30) hx hb d_Ou_median_15 (by decide) (fun c_1 => ?_) (fun c_1 => ?_)
  · refine lv_aload_n hx hb d_Ou_median_30 rfl (lv_at hl 0 rfl) ?_
    refine va_get (D := D) (ci := 3) (v := .int (o 2)) (C := R_Ou) (T := T_Ou) (N := 9) hx hb hu in_Ou hown hK hP 0 rfl rfl 2 (by decide) (hu _ hw_171) (fun _ h9 => h9) rfl d_Ou_median_31 ?_
    refine lv_aload_n hx hb d_Ou_median_34 rfl (lv_at hl 0 rfl) ?_
    refine va_get (D := D) (ci := 3) (v := .int (o 0)) (C := R_Ou) (T := T_Ou) (N := 9) hx hb hu in_Ou hown hK hP 0 rfl rfl 0 (by decide) (hu _ hw_164) (fun _ h9 => h9) rfl d_Ou_median_35 ?_
    refine lv_aload_n hx hb d_Ou_median_38 rfl (lv_at hl 0 rfl) ?_
    refine va_get (D := D) (ci := 3) (v := .int (o 1)) (C := R_Ou) (T := T_Ou) (N := 9) hx hb hu in_Ou hown hK hP 0 rfl rfl 1 (by decide) (hu _ hw_167) (fun _ h9 => h9) rfl d_Ou_median_39 ?_
    refine va_mmin hx hb (hml.trans hl.1.symm) hown (hu _ hw_351) (hu _ hw_59) (hu _ hw_33) (hu _ hw_60) (Nat.le_of_ble_eq_true rfl) (Nat.le_of_ble_eq_true rfl) (Nat.le_of_ble_eq_true rfl) (Nat.le_of_ble_eq_true rfl) d_Ou_median_42 ?_
    refine W.eq (g2 := F0 m 45 ls [.int (jmin (o 0) (o 1)), .int (o 2)]) rfl ?_
    refine lv_icmp_gt (tgt := 60) hx hb d_Ou_median_45 (by decide) (fun c_2 => ?_) (fun c_2 => ?_)
    · refine lv_aload_n hx hb d_Ou_median_60 rfl (lv_at hl 0 rfl) ?_
      refine va_get (D := D) (ci := 3) (v := .int (o 0)) (C := R_Ou) (T := T_Ou) (N := 9) hx hb hu in_Ou hown hK hP 0 rfl rfl 0 (by decide) (hu _ hw_164) (fun _ h9 => h9) rfl d_Ou_median_61 ?_
      refine lv_aload_n hx hb d_Ou_median_64 rfl (lv_at hl 0 rfl) ?_
      refine va_get (D := D) (ci := 3) (v := .int (o 1)) (C := R_Ou) (T := T_Ou) (N := 9) hx hb hu in_Ou hown hK hP 0 rfl rfl 1 (by decide) (hu _ hw_167) (fun _ h9 => h9) rfl d_Ou_median_65 ?_
      refine lv_iadd hx hb d_Ou_median_68 ?_
      refine lv_aload_n hx hb d_Ou_median_69 rfl (lv_at hl 0 rfl) ?_
      refine va_get (D := D) (ci := 3) (v := .int (o 2)) (C := R_Ou) (T := T_Ou) (N := 9) hx hb hu in_Ou hown hK hP 0 rfl rfl 2 (by decide) (hu _ hw_171) (fun _ h9 => h9) rfl d_Ou_median_70 ?_
      refine lv_isub hx hb d_Ou_median_73 ?_
      have hP9 : va_P D vwCl ([(qo, k_Ou o)]) s.heap := hP.sub [0] rfl
      have hD9 : va_D A ([(qo, k_Ou o)]) := hD.sub [0] (by decide) rfl
      exact W.iret (v := ((o 0) + (o 1)) - (o 2)) hx hb hr (fun t ht hW => ⟨⟨((o 0) + (o 1)) - (o 2), (), rfl, by rw [f_median, if_pos c_1, if_pos c_2], by rw [ht]; exact hP9, va_K.moved hW.alike (hK.sub [] rfl), hD9⟩, hS.F ht⟩) hS.2.2 d_Ou_median_74
    · refine lv_aload_n hx hb d_Ou_median_48 rfl (lv_at hl 0 rfl) ?_
      refine va_get (D := D) (ci := 3) (v := .int (o 0)) (C := R_Ou) (T := T_Ou) (N := 9) hx hb hu in_Ou hown hK hP 0 rfl rfl 0 (by decide) (hu _ hw_164) (fun _ h9 => h9) rfl d_Ou_median_49 ?_
      refine lv_aload_n hx hb d_Ou_median_52 rfl (lv_at hl 0 rfl) ?_
      refine va_get (D := D) (ci := 3) (v := .int (o 1)) (C := R_Ou) (T := T_Ou) (N := 9) hx hb hu in_Ou hown hK hP 0 rfl rfl 1 (by decide) (hu _ hw_167) (fun _ h9 => h9) rfl d_Ou_median_53 ?_
      refine va_mmax hx hb (hml.trans hl.1.symm) hown (hu _ hw_350) (hu _ hw_62) (hu _ hw_33) (hu _ hw_63) (Nat.le_of_ble_eq_true rfl) (Nat.le_of_ble_eq_true rfl) (Nat.le_of_ble_eq_true rfl) (Nat.le_of_ble_eq_true rfl) d_Ou_median_56 ?_
      refine W.eq (g2 := F0 m 59 ls [.int (jmax (o 0) (o 1))]) rfl ?_
      have hP9 : va_P D vwCl ([(qo, k_Ou o)]) s.heap := hP.sub [0] rfl
      have hD9 : va_D A ([(qo, k_Ou o)]) := hD.sub [0] (by decide) rfl
      exact W.iret (v := jmax (o 0) (o 1)) hx hb hr (fun t ht hW => ⟨⟨jmax (o 0) (o 1), (), rfl, by rw [f_median, if_pos c_1, if_neg c_2], by rw [ht]; exact hP9, va_K.moved hW.alike (hK.sub [] rfl), hD9⟩, hS.F ht⟩) hS.2.2 d_Ou_median_59
  · refine lv_aload_n hx hb d_Ou_median_18 rfl (lv_at hl 0 rfl) ?_
    refine va_get (D := D) (ci := 3) (v := .int (o 0)) (C := R_Ou) (T := T_Ou) (N := 9) hx hb hu in_Ou hown hK hP 0 rfl rfl 0 (by decide) (hu _ hw_164) (fun _ h9 => h9) rfl d_Ou_median_19 ?_
    refine lv_aload_n hx hb d_Ou_median_22 rfl (lv_at hl 0 rfl) ?_
    refine va_get (D := D) (ci := 3) (v := .int (o 1)) (C := R_Ou) (T := T_Ou) (N := 9) hx hb hu in_Ou hown hK hP 0 rfl rfl 1 (by decide) (hu _ hw_167) (fun _ h9 => h9) rfl d_Ou_median_23 ?_
    refine va_mmin hx hb (hml.trans hl.1.symm) hown (hu _ hw_351) (hu _ hw_59) (hu _ hw_33) (hu _ hw_60) (Nat.le_of_ble_eq_true rfl) (Nat.le_of_ble_eq_true rfl) (Nat.le_of_ble_eq_true rfl) (Nat.le_of_ble_eq_true rfl) d_Ou_median_26 ?_
    refine W.eq (g2 := F0 m 29 ls [.int (jmin (o 0) (o 1))]) rfl ?_
    have hP9 : va_P D vwCl ([(qo, k_Ou o)]) s.heap := hP.sub [0] rfl
    have hD9 : va_D A ([(qo, k_Ou o)]) := hD.sub [0] (by decide) rfl
    exact W.iret (v := jmin (o 0) (o 1)) hx hb hr (fun t ht hW => ⟨⟨jmin (o 0) (o 1), (), rfl, by rw [f_median, if_neg c_1], by rw [ht]; exact hP9, va_K.moved hW.alike (hK.sub [] rfl), hD9⟩, hS.F ht⟩) hS.2.2 d_Ou_median_29
def f_expectEnd_2 (g : Nat → Int32) (o : Nat → Int32) (r_1 : Int32) : Nat → Int32 :=
  if r_1 = 0 then
    if r_1 = 0 then
      if (o 0) ≤ (o 1) then
        if r_1 = 0 then (mk9 (o 0) (o 1) (o 2) (o 3) (o 4) 365 1 (o 1) (o 8))
        else (mk9 (o 0) (o 1) (o 2) (o 3) (o 4) 365 1 (o 0) (o 8))
      else
        if r_1 = 0 then (mk9 (o 0) (o 1) (o 2) (o 3) (o 4) 365 (-1) (o 1) (o 8))
        else (mk9 (o 0) (o 1) (o 2) (o 3) (o 4) 365 (-1) (o 0) (o 8))
    else
      if r_1 = 0 then (mk9 (o 0) (o 1) (o 2) (o 3) (o 4) 365 1 (o 1) (o 8))
      else (mk9 (o 0) (o 1) (o 2) (o 3) (o 4) 365 1 (o 0) (o 8))
  else
    if r_1 = 0 then
      if (o 0) ≤ (o 1) then
        if r_1 = 0 then (mk9 (o 0) (o 1) (o 2) (o 3) (o 4) 366 1 (o 1) (o 8))
        else (mk9 (o 0) (o 1) (o 2) (o 3) (o 4) 366 1 (o 0) (o 8))
      else
        if r_1 = 0 then (mk9 (o 0) (o 1) (o 2) (o 3) (o 4) 366 (-1) (o 1) (o 8))
        else (mk9 (o 0) (o 1) (o 2) (o 3) (o 4) 366 (-1) (o 0) (o 8))
    else
      if r_1 = 0 then (mk9 (o 0) (o 1) (o 2) (o 3) (o 4) 366 1 (o 1) (o 8))
      else (mk9 (o 0) (o 1) (o 2) (o 3) (o 4) 366 1 (o 0) (o 8))
def f_expectEnd (g : Nat → Int32) (o : Nat → Int32) : Nat → Int32 := f_expectEnd_2 g o (f_isFlat g ((o 0) - (o 1)))
set_option maxHeartbeats 4000000 in
set_option maxRecDepth 100000 in
theorem c_expectEnd (l : Launch) (D : va_G) (sa : Nat → Nat) (sz : Nat) (qo : Nat) (qg : Nat) (g : Nat → Int32) (o : Nat → Int32)  : Met l y_Ou_expectEnd w_Ou_expectEnd ({ frames := 2, cells := 0, slots := 0, locals := 34 }) (va_Pc [.ref qo, .ref qg] (vq_pre D sa [(qo, k_Ou o), (qg, k_Sc g)] [] sz)) (va_Qv (fun (u : (Nat → Int32)) => f_expectEnd g o = u) (vq_B D (va_A [(qo, k_Ou o), (qg, k_Sc g)] sz) [] (fun (u : (Nat → Int32)) => [(qo, k_Ou u), (qg, k_Sc g)])) (va_A [(qo, k_Ou o), (qg, k_Sc g)] sz)) 0 0 (va_A [(qo, k_Ou o), (qg, k_Sc g)] sz) := by
  refine Met.ofW (cc := b_Ou_expectEnd) (maxL := 3) (ret := none) (by decide) rfl ?_
  intro p e s m args below meth c s₁ B hml hv
  obtain ⟨rfl, hsz, hP, hK, hD0, hE⟩ := hv
  have hx := B.exec
  have hb := B.bytes
  have hr := B.returns
  have hts := atoms_spec (ws := w_Ou_expectEnd) B.pre
  have hu : ∀ w9 ∈ vU, Cond.before w9 ([.ref qo, .ref qg]).toArray s = true := fun w9 h => hts w9 (List.mem_cons_of_mem _ h)
  have hown : s.vm.findClass R_Ou = some m.cls := findClass_of_methodNamed B.named
  have hlocks := B.notSynchronized
  subst hsz
  have hD := hD0.self (sz := s.heap.size)
  generalize hAe : va_A [(qo, k_Ou o), (qg, k_Sc g)] s.heap.size = A at hD ⊢
  have hA : ∀ q : Nat, s.heap.size ≤ q → A q := fun q h => by rw [← hAe]; exact Or.inr h
  have hS : va_S A s.heap s.heap [] := va_S.rf
  have hP : va_P D vwCl [(qo, k_Ou o), (qg, k_Sc g)] s.heap := hP
  have hl := lv_entry ([.ref qo, .ref qg]) (n := 3) (Nat.le_of_ble_eq_true rfl)
  rw [lg_entry_eq]
  generalize (lg_sl ([.ref qo, .ref qg]) ++ List.replicate (3 - (lg_sl ([.ref qo, .ref qg])).length) Slot.unset).toArray = ls at hl ⊢
  have hl : lv_has ls 3 [(0, .ref qo), (1, .ref qg)] := hl
  refine lv_aload_n hx hb d_Ou_expectEnd_0 rfl (lv_at hl 1 rfl) ?_
  refine lv_aload_n hx hb d_Ou_expectEnd_1 rfl (lv_at hl 0 rfl) ?_
  refine va_get (D := D) (ci := 3) (v := .int (o 0)) (C := R_Ou) (T := T_Ou) (N := 9) hx hb hu in_Ou hown hK hP 0 rfl rfl 0 (by decide) (hu _ hw_164) (fun _ h9 => h9) rfl d_Ou_expectEnd_2 ?_
  refine lv_aload_n hx hb d_Ou_expectEnd_5 rfl (lv_at hl 0 rfl) ?_
  refine va_get (D := D) (ci := 3) (v := .int (o 1)) (C := R_Ou) (T := T_Ou) (N := 9) hx hb hu in_Ou hown hK hP 0 rfl rfl 1 (by decide) (hu _ hw_167) (fun _ h9 => h9) rfl d_Ou_expectEnd_6 ?_
  refine lv_isub hx hb d_Ou_expectEnd_9 ?_
  refine vq_i (wr := [(qo, k_Ou o)]) (va_runV (As := [.int ((o 0) - (o 1))]) (rest := []) ⟨hx, hb, hml, hown, hts⟩ (c_isFlat l D sa s.heap.size qg g ((o 0) - (o 1))) (cwV 1 hts (vg_V (fun w h => List.mem_cons_of_mem _ h) hw_376 hw_329 hw_330 hw_34 hw_331) rfl rfl rfl (by decide +kernel) ⟨Nat.le_of_ble_eq_true rfl, Nat.le_of_ble_eq_true rfl⟩) (vq_pV hE hK hP hD [1] [] rfl (by decide) rfl 1 1 rfl rfl rfl) rfl rfl hl.1 rfl (lv_room (Nat.le_of_ble_eq_true rfl)) d_Ou_expectEnd_10 ⟨Nat.le_of_ble_eq_true rfl, Nat.le_of_ble_eq_true rfl⟩) hP hD hS hA [1] [0] rfl rfl (by decide) (by decide) (fun r_1 u_1 H locs e_1 hP hD hS => ?_)
  have hP : va_P D vwCl [(qo, k_Ou o), (qg, k_Sc g)] H := hP
  have hD : va_D A [(qo, k_Ou o), (qg, k_Sc g)] := hD
  refine lv_istore_n (lv' := [(2, .int r_1), (0, .ref qo), (1, .ref qg)]) hx hb d_Ou_expectEnd_13 rfl hl (by decide) rfl (fun ls hl => ?_)
  refine lv_aload_n hx hb d_Ou_expectEnd_14 rfl (lv_at hl 1 rfl) ?_
  refine lv_iload_n hx hb d_Ou_expectEnd_15 rfl (lv_at hl 0 rfl) ?_
  refine lv_if_eq (tgt := 25) hx hb d_Ou_expectEnd_16 (by decide) (fun c_3 => ?_) (fun c_3 => ?_)
  · refine lv_sipush (v := 365) hx hb d_Ou_expectEnd_25 (by decide) ?_
    refine va_put (D := D) (ci := 3) (v := .int 365) (ty := .int) (C := R_Ou) (T := T_Ou) (N := 9) hx hb hu in_Ou t_Ou t_Ou_ok n_Ou hown hK hP hD hS 0 rfl rfl 5 (by decide) (hu _ hw_178) (fun _ h9 => h9) rfl (by decide +kernel) rfl rfl (Nat.le_of_ble_eq_true rfl) d_Ou_expectEnd_28 (fun H locs hP hD hS => ?_)
    have hP : va_P D vwCl [(qo, .inr (3, [.int (o 0), .int (o 1), .int (o 2), .int (o 3), .int (o 4), .int 365, .int (o 6), .int (o 7), .int (o 8)])), (qg, k_Sc g)] H := hP
    have hD : va_D A [(qo, .inr (3, [.int (o 0), .int (o 1), .int (o 2), .int (o 3), .int (o 4), .int 365, .int (o 6), .int (o 7), .int (o 8)])), (qg, k_Sc g)] := hD
    refine lv_aload_n hx hb d_Ou_expectEnd_31 rfl (lv_at hl 1 rfl) ?_
    refine lv_iload_n hx hb d_Ou_expectEnd_32 rfl (lv_at hl 0 rfl) ?_
    refine lv_if_ne (tgt := 51) hx hb d_Ou_expectEnd_33 (by decide) (fun c_4 => ?_) (fun c_4 => ?_)
    · refine lv_iconst (v := 1) hx hb d_Ou_expectEnd_51 (by decide) ?_
      refine va_put (D := D) (ci := 3) (v := .int 1) (ty := .int) (C := R_Ou) (T := T_Ou) (N := 9) hx hb hu in_Ou t_Ou t_Ou_ok n_Ou hown hK hP hD hS 0 rfl rfl 6 (by decide) (hu _ hw_180) (fun _ h9 => h9) rfl (by decide +kernel) rfl rfl (Nat.le_of_ble_eq_true rfl) d_Ou_expectEnd_52 (fun H locs hP hD hS => ?_)
      have hP : va_P D vwCl [(qo, .inr (3, [.int (o 0), .int (o 1), .int (o 2), .int (o 3), .int (o 4), .int 365, .int 1, .int (o 7), .int (o 8)])), (qg, k_Sc g)] H := hP
      have hD : va_D A [(qo, .inr (3, [.int (o 0), .int (o 1), .int (o 2), .int (o 3), .int (o 4), .int 365, .int 1, .int (o 7), .int (o 8)])), (qg, k_Sc g)] := hD
      refine lv_aload_n hx hb d_Ou_expectEnd_55 rfl (lv_at hl 1 rfl) ?_
      refine lv_iload_n hx hb d_Ou_expectEnd_56 rfl (lv_at hl 0 rfl) ?_
      refine lv_if_eq (tgt := 67) hx hb d_Ou_expectEnd_57 (by decide) (fun c_5 => ?_) (fun c_5 => ?_)
      · refine lv_aload_n hx hb d_Ou_expectEnd_67 rfl (lv_at hl 1 rfl) ?_
        refine va_get (D := D) (ci := 3) (v := .int (o 1)) (C := R_Ou) (T := T_Ou) (N := 9) hx hb hu in_Ou hown hK hP 0 rfl rfl 1 (by decide) (hu _ hw_167) (fun _ h9 => h9) rfl d_Ou_expectEnd_68 ?_
        refine va_put (D := D) (ci := 3) (v := .int (o 1)) (ty := .int) (C := R_Ou) (T := T_Ou) (N := 9) hx hb hu in_Ou t_Ou t_Ou_ok n_Ou hown hK hP hD hS 0 rfl rfl 7 (by decide) (hu _ hw_182) (fun _ h9 => h9) rfl (by decide +kernel) rfl rfl (Nat.le_of_ble_eq_true rfl) d_Ou_expectEnd_71 (fun H locs hP hD hS => ?_)
        have hP : va_P D vwCl [(qo, .inr (3, [.int (o 0), .int (o 1), .int (o 2), .int (o 3), .int (o 4), .int 365, .int 1, .int (o 1), .int (o 8)])), (qg, k_Sc g)] H := hP
        have hD : va_D A [(qo, .inr (3, [.int (o 0), .int (o 1), .int (o 2), .int (o 3), .int (o 4), .int 365, .int 1, .int (o 1), .int (o 8)])), (qg, k_Sc g)] := hD
        have hP9 : va_P D vwCl ([(qo, k_Ou (mk9 (o 0) (o 1) (o 2) (o 3) (o 4) 365 1 (o 1) (o 8))), (qg, k_Sc g)]) H := hP.sub [0, 1] rfl
        have hD9 : va_D A ([(qo, k_Ou (mk9 (o 0) (o 1) (o 2) (o 3) (o 4) 365 1 (o 1) (o 8))), (qg, k_Sc g)]) := hD.sub [0, 1] (by decide) rfl
        exact W.vret hx hb hr (fun t ht hW => ⟨⟨(mk9 (o 0) (o 1) (o 2) (o 3) (o 4) 365 1 (o 1) (o 8)), rfl, by rw [f_expectEnd, e_1, f_expectEnd_2, if_pos c_3, if_neg c_4, if_pos c_5], by rw [ht]; exact hP9, va_K.moved hW.alike (hK.sub [] rfl), hD9⟩, hS.F ht⟩) hS.2.2 d_Ou_expectEnd_74
      · refine lv_aload_n hx hb d_Ou_expectEnd_60 rfl (lv_at hl 1 rfl) ?_
        refine va_get (D := D) (ci := 3) (v := .int (o 0)) (C := R_Ou) (T := T_Ou) (N := 9) hx hb hu in_Ou hown hK hP 0 rfl rfl 0 (by decide) (hu _ hw_164) (fun _ h9 => h9) rfl d_Ou_expectEnd_61 ?_
        refine lv_goto (tgt := 71) hx hb d_Ou_expectEnd_64 (by decide) ?_
        refine va_put (D := D) (ci := 3) (v := .int (o 0)) (ty := .int) (C := R_Ou) (T := T_Ou) (N := 9) hx hb hu in_Ou t_Ou t_Ou_ok n_Ou hown hK hP hD hS 0 rfl rfl 7 (by decide) (hu _ hw_182) (fun _ h9 => h9) rfl (by decide +kernel) rfl rfl (Nat.le_of_ble_eq_true rfl) d_Ou_expectEnd_71 (fun H locs hP hD hS => ?_)
        have hP : va_P D vwCl [(qo, .inr (3, [.int (o 0), .int (o 1), .int (o 2), .int (o 3), .int (o 4), .int 365, .int 1, .int (o 0), .int (o 8)])), (qg, k_Sc g)] H := hP
        have hD : va_D A [(qo, .inr (3, [.int (o 0), .int (o 1), .int (o 2), .int (o 3), .int (o 4), .int 365, .int 1, .int (o 0), .int (o 8)])), (qg, k_Sc g)] := hD
        have hP9 : va_P D vwCl ([(qo, k_Ou (mk9 (o 0) (o 1) (o 2) (o 3) (o 4) 365 1 (o 0) (o 8))), (qg, k_Sc g)]) H := hP.sub [0, 1] rfl
        have hD9 : va_D A ([(qo, k_Ou (mk9 (o 0) (o 1) (o 2) (o 3) (o 4) 365 1 (o 0) (o 8))), (qg, k_Sc g)]) := hD.sub [0, 1] (by decide) rfl
        exact W.vret hx hb hr (fun t ht hW => ⟨⟨(mk9 (o 0) (o 1) (o 2) (o 3) (o 4) 365 1 (o 0) (o 8)), rfl, by rw [f_expectEnd, e_1, f_expectEnd_2, if_pos c_3, if_neg c_4, if_neg c_5], by rw [ht]; exact hP9, va_K.moved hW.alike (hK.sub [] rfl), hD9⟩, hS.F ht⟩) hS.2.2 d_Ou_expectEnd_74
    · refine lv_aload_n hx hb d_Ou_expectEnd_36 rfl (lv_at hl 1 rfl) ?_
      refine va_get (D := D) (ci := 3) (v := .int (o 0)) (C := R_Ou) (T := T_Ou) (N := 9) hx hb hu in_Ou hown hK hP 0 rfl rfl 0 (by decide) (hu _ hw_164) (fun _ h9 => h9) rfl d_Ou_expectEnd_37 ?_
      refine lv_aload_n hx hb d_Ou_expectEnd_40 rfl (lv_at hl 1 rfl) ?_
      refine va_get (D := D) (ci := 3) (v := .int (o 1)) (C := R_Ou) (T := T_Ou) (N := 9) hx hb hu in_Ou hown hK hP 0 rfl rfl 1 (by decide) (hu _ hw_167) (fun _ h9 => h9) rfl d_Ou_expectEnd_41 ?_
      refine lv_icmp_le (tgt := 51) hx hb d_Ou_expectEnd_44 (by decide) (fun c_6 => ?_) (fun c_6 => ?_)
      · refine lv_iconst (v := 1) hx hb d_Ou_expectEnd_51 (by decide) ?_
        refine va_put (D := D) (ci := 3) (v := .int 1) (ty := .int) (C := R_Ou) (T := T_Ou) (N := 9) hx hb hu in_Ou t_Ou t_Ou_ok n_Ou hown hK hP hD hS 0 rfl rfl 6 (by decide) (hu _ hw_180) (fun _ h9 => h9) rfl (by decide +kernel) rfl rfl (Nat.le_of_ble_eq_true rfl) d_Ou_expectEnd_52 (fun H locs hP hD hS => ?_)
        have hP : va_P D vwCl [(qo, .inr (3, [.int (o 0), .int (o 1), .int (o 2), .int (o 3), .int (o 4), .int 365, .int 1, .int (o 7), .int (o 8)])), (qg, k_Sc g)] H := hP
        have hD : va_D A [(qo, .inr (3, [.int (o 0), .int (o 1), .int (o 2), .int (o 3), .int (o 4), .int 365, .int 1, .int (o 7), .int (o 8)])), (qg, k_Sc g)] := hD
        refine lv_aload_n hx hb d_Ou_expectEnd_55 rfl (lv_at hl 1 rfl) ?_
        refine lv_iload_n hx hb d_Ou_expectEnd_56 rfl (lv_at hl 0 rfl) ?_
        refine lv_if_eq (tgt := 67) hx hb d_Ou_expectEnd_57 (by decide) (fun c_7 => ?_) (fun c_7 => ?_)
        · refine lv_aload_n hx hb d_Ou_expectEnd_67 rfl (lv_at hl 1 rfl) ?_
          refine va_get (D := D) (ci := 3) (v := .int (o 1)) (C := R_Ou) (T := T_Ou) (N := 9) hx hb hu in_Ou hown hK hP 0 rfl rfl 1 (by decide) (hu _ hw_167) (fun _ h9 => h9) rfl d_Ou_expectEnd_68 ?_
          refine va_put (D := D) (ci := 3) (v := .int (o 1)) (ty := .int) (C := R_Ou) (T := T_Ou) (N := 9) hx hb hu in_Ou t_Ou t_Ou_ok n_Ou hown hK hP hD hS 0 rfl rfl 7 (by decide) (hu _ hw_182) (fun _ h9 => h9) rfl (by decide +kernel) rfl rfl (Nat.le_of_ble_eq_true rfl) d_Ou_expectEnd_71 (fun H locs hP hD hS => ?_)
          have hP : va_P D vwCl [(qo, .inr (3, [.int (o 0), .int (o 1), .int (o 2), .int (o 3), .int (o 4), .int 365, .int 1, .int (o 1), .int (o 8)])), (qg, k_Sc g)] H := hP
          have hD : va_D A [(qo, .inr (3, [.int (o 0), .int (o 1), .int (o 2), .int (o 3), .int (o 4), .int 365, .int 1, .int (o 1), .int (o 8)])), (qg, k_Sc g)] := hD
          have hP9 : va_P D vwCl ([(qo, k_Ou (mk9 (o 0) (o 1) (o 2) (o 3) (o 4) 365 1 (o 1) (o 8))), (qg, k_Sc g)]) H := hP.sub [0, 1] rfl
          have hD9 : va_D A ([(qo, k_Ou (mk9 (o 0) (o 1) (o 2) (o 3) (o 4) 365 1 (o 1) (o 8))), (qg, k_Sc g)]) := hD.sub [0, 1] (by decide) rfl
          exact W.vret hx hb hr (fun t ht hW => ⟨⟨(mk9 (o 0) (o 1) (o 2) (o 3) (o 4) 365 1 (o 1) (o 8)), rfl, by rw [f_expectEnd, e_1, f_expectEnd_2, if_pos c_3, if_pos c_4, if_pos c_6, if_pos c_7], by rw [ht]; exact hP9, va_K.moved hW.alike (hK.sub [] rfl), hD9⟩, hS.F ht⟩) hS.2.2 d_Ou_expectEnd_74
        · refine lv_aload_n hx hb d_Ou_expectEnd_60 rfl (lv_at hl 1 rfl) ?_
          refine va_get (D := D) (ci := 3) (v := .int (o 0)) (C := R_Ou) (T := T_Ou) (N := 9) hx hb hu in_Ou hown hK hP 0 rfl rfl 0 (by decide) (hu _ hw_164) (fun _ h9 => h9) rfl d_Ou_expectEnd_61 ?_
          refine lv_goto (tgt := 71) hx hb d_Ou_expectEnd_64 (by decide) ?_
          refine va_put (D := D) (ci := 3) (v := .int (o 0)) (ty := .int) (C := R_Ou) (T := T_Ou) (N := 9) hx hb hu in_Ou t_Ou t_Ou_ok n_Ou hown hK hP hD hS 0 rfl rfl 7 (by decide) (hu _ hw_182) (fun _ h9 => h9) rfl (by decide +kernel) rfl rfl (Nat.le_of_ble_eq_true rfl) d_Ou_expectEnd_71 (fun H locs hP hD hS => ?_)
          have hP : va_P D vwCl [(qo, .inr (3, [.int (o 0), .int (o 1), .int (o 2), .int (o 3), .int (o 4), .int 365, .int 1, .int (o 0), .int (o 8)])), (qg, k_Sc g)] H := hP
          have hD : va_D A [(qo, .inr (3, [.int (o 0), .int (o 1), .int (o 2), .int (o 3), .int (o 4), .int 365, .int 1, .int (o 0), .int (o 8)])), (qg, k_Sc g)] := hD
          have hP9 : va_P D vwCl ([(qo, k_Ou (mk9 (o 0) (o 1) (o 2) (o 3) (o 4) 365 1 (o 0) (o 8))), (qg, k_Sc g)]) H := hP.sub [0, 1] rfl
          have hD9 : va_D A ([(qo, k_Ou (mk9 (o 0) (o 1) (o 2) (o 3) (o 4) 365 1 (o 0) (o 8))), (qg, k_Sc g)]) := hD.sub [0, 1] (by decide) rfl
          exact W.vret hx hb hr (fun t ht hW => ⟨⟨(mk9 (o 0) (o 1) (o 2) (o 3) (o 4) 365 1 (o 0) (o 8)), rfl, by rw [f_expectEnd, e_1, f_expectEnd_2, if_pos c_3, if_pos c_4, if_pos c_6, if_neg c_7], by rw [ht]; exact hP9, va_K.moved hW.alike (hK.sub [] rfl), hD9⟩, hS.F ht⟩) hS.2.2 d_Ou_expectEnd_74
      · refine lv_iconst (v := -1) hx hb d_Ou_expectEnd_47 (by decide) ?_
        refine lv_goto (tgt := 52) hx hb d_Ou_expectEnd_48 (by decide) ?_
        refine va_put (D := D) (ci := 3) (v := .int (-1)) (ty := .int) (C := R_Ou) (T := T_Ou) (N := 9) hx hb hu in_Ou t_Ou t_Ou_ok n_Ou hown hK hP hD hS 0 rfl rfl 6 (by decide) (hu _ hw_180) (fun _ h9 => h9) rfl (by decide +kernel) rfl rfl (Nat.le_of_ble_eq_true rfl) d_Ou_expectEnd_52 (fun H locs hP hD hS => ?_)
        have hP : va_P D vwCl [(qo, .inr (3, [.int (o 0), .int (o 1), .int (o 2), .int (o 3), .int (o 4), .int 365, .int (-1), .int (o 7), .int (o 8)])), (qg, k_Sc g)] H := hP
        have hD : va_D A [(qo, .inr (3, [.int (o 0), .int (o 1), .int (o 2), .int (o 3), .int (o 4), .int 365, .int (-1), .int (o 7), .int (o 8)])), (qg, k_Sc g)] := hD
        refine lv_aload_n hx hb d_Ou_expectEnd_55 rfl (lv_at hl 1 rfl) ?_
        refine lv_iload_n hx hb d_Ou_expectEnd_56 rfl (lv_at hl 0 rfl) ?_
        refine lv_if_eq (tgt := 67) hx hb d_Ou_expectEnd_57 (by decide) (fun c_8 => ?_) (fun c_8 => ?_)
        · refine lv_aload_n hx hb d_Ou_expectEnd_67 rfl (lv_at hl 1 rfl) ?_
          refine va_get (D := D) (ci := 3) (v := .int (o 1)) (C := R_Ou) (T := T_Ou) (N := 9) hx hb hu in_Ou hown hK hP 0 rfl rfl 1 (by decide) (hu _ hw_167) (fun _ h9 => h9) rfl d_Ou_expectEnd_68 ?_
          refine va_put (D := D) (ci := 3) (v := .int (o 1)) (ty := .int) (C := R_Ou) (T := T_Ou) (N := 9) hx hb hu in_Ou t_Ou t_Ou_ok n_Ou hown hK hP hD hS 0 rfl rfl 7 (by decide) (hu _ hw_182) (fun _ h9 => h9) rfl (by decide +kernel) rfl rfl (Nat.le_of_ble_eq_true rfl) d_Ou_expectEnd_71 (fun H locs hP hD hS => ?_)
          have hP : va_P D vwCl [(qo, .inr (3, [.int (o 0), .int (o 1), .int (o 2), .int (o 3), .int (o 4), .int 365, .int (-1), .int (o 1), .int (o 8)])), (qg, k_Sc g)] H := hP
          have hD : va_D A [(qo, .inr (3, [.int (o 0), .int (o 1), .int (o 2), .int (o 3), .int (o 4), .int 365, .int (-1), .int (o 1), .int (o 8)])), (qg, k_Sc g)] := hD
          have hP9 : va_P D vwCl ([(qo, k_Ou (mk9 (o 0) (o 1) (o 2) (o 3) (o 4) 365 (-1) (o 1) (o 8))), (qg, k_Sc g)]) H := hP.sub [0, 1] rfl
          have hD9 : va_D A ([(qo, k_Ou (mk9 (o 0) (o 1) (o 2) (o 3) (o 4) 365 (-1) (o 1) (o 8))), (qg, k_Sc g)]) := hD.sub [0, 1] (by decide) rfl
          exact W.vret hx hb hr (fun t ht hW => ⟨⟨(mk9 (o 0) (o 1) (o 2) (o 3) (o 4) 365 (-1) (o 1) (o 8)), rfl, by rw [f_expectEnd, e_1, f_expectEnd_2, if_pos c_3, if_pos c_4, if_neg c_6, if_pos c_8], by rw [ht]; exact hP9, va_K.moved hW.alike (hK.sub [] rfl), hD9⟩, hS.F ht⟩) hS.2.2 d_Ou_expectEnd_74
        · refine lv_aload_n hx hb d_Ou_expectEnd_60 rfl (lv_at hl 1 rfl) ?_
          refine va_get (D := D) (ci := 3) (v := .int (o 0)) (C := R_Ou) (T := T_Ou) (N := 9) hx hb hu in_Ou hown hK hP 0 rfl rfl 0 (by decide) (hu _ hw_164) (fun _ h9 => h9) rfl d_Ou_expectEnd_61 ?_
          refine lv_goto (tgt := 71) hx hb d_Ou_expectEnd_64 (by decide) ?_
          refine va_put (D := D) (ci := 3) (v := .int (o 0)) (ty := .int) (C := R_Ou) (T := T_Ou) (N := 9) hx hb hu in_Ou t_Ou t_Ou_ok n_Ou hown hK hP hD hS 0 rfl rfl 7 (by decide) (hu _ hw_182) (fun _ h9 => h9) rfl (by decide +kernel) rfl rfl (Nat.le_of_ble_eq_true rfl) d_Ou_expectEnd_71 (fun H locs hP hD hS => ?_)
          have hP : va_P D vwCl [(qo, .inr (3, [.int (o 0), .int (o 1), .int (o 2), .int (o 3), .int (o 4), .int 365, .int (-1), .int (o 0), .int (o 8)])), (qg, k_Sc g)] H := hP
          have hD : va_D A [(qo, .inr (3, [.int (o 0), .int (o 1), .int (o 2), .int (o 3), .int (o 4), .int 365, .int (-1), .int (o 0), .int (o 8)])), (qg, k_Sc g)] := hD
          have hP9 : va_P D vwCl ([(qo, k_Ou (mk9 (o 0) (o 1) (o 2) (o 3) (o 4) 365 (-1) (o 0) (o 8))), (qg, k_Sc g)]) H := hP.sub [0, 1] rfl
          have hD9 : va_D A ([(qo, k_Ou (mk9 (o 0) (o 1) (o 2) (o 3) (o 4) 365 (-1) (o 0) (o 8))), (qg, k_Sc g)]) := hD.sub [0, 1] (by decide) rfl
          exact W.vret hx hb hr (fun t ht hW => ⟨⟨(mk9 (o 0) (o 1) (o 2) (o 3) (o 4) 365 (-1) (o 0) (o 8)), rfl, by rw [f_expectEnd, e_1, f_expectEnd_2, if_pos c_3, if_pos c_4, if_neg c_6, if_neg c_8], by rw [ht]; exact hP9, va_K.moved hW.alike (hK.sub [] rfl), hD9⟩, hS.F ht⟩) hS.2.2 d_Ou_expectEnd_74
  · refine lv_sipush (v := 366) hx hb d_Ou_expectEnd_19 (by decide) ?_
    refine lv_goto (tgt := 28) hx hb d_Ou_expectEnd_22 (by decide) ?_
    refine va_put (D := D) (ci := 3) (v := .int 366) (ty := .int) (C := R_Ou) (T := T_Ou) (N := 9) hx hb hu in_Ou t_Ou t_Ou_ok n_Ou hown hK hP hD hS 0 rfl rfl 5 (by decide) (hu _ hw_178) (fun _ h9 => h9) rfl (by decide +kernel) rfl rfl (Nat.le_of_ble_eq_true rfl) d_Ou_expectEnd_28 (fun H locs hP hD hS => ?_)
    have hP : va_P D vwCl [(qo, .inr (3, [.int (o 0), .int (o 1), .int (o 2), .int (o 3), .int (o 4), .int 366, .int (o 6), .int (o 7), .int (o 8)])), (qg, k_Sc g)] H := hP
    have hD : va_D A [(qo, .inr (3, [.int (o 0), .int (o 1), .int (o 2), .int (o 3), .int (o 4), .int 366, .int (o 6), .int (o 7), .int (o 8)])), (qg, k_Sc g)] := hD
    refine lv_aload_n hx hb d_Ou_expectEnd_31 rfl (lv_at hl 1 rfl) ?_
    refine lv_iload_n hx hb d_Ou_expectEnd_32 rfl (lv_at hl 0 rfl) ?_
    refine lv_if_ne (tgt := 51) hx hb d_Ou_expectEnd_33 (by decide) (fun c_9 => ?_) (fun c_9 => ?_)
    · refine lv_iconst (v := 1) hx hb d_Ou_expectEnd_51 (by decide) ?_
      refine va_put (D := D) (ci := 3) (v := .int 1) (ty := .int) (C := R_Ou) (T := T_Ou) (N := 9) hx hb hu in_Ou t_Ou t_Ou_ok n_Ou hown hK hP hD hS 0 rfl rfl 6 (by decide) (hu _ hw_180) (fun _ h9 => h9) rfl (by decide +kernel) rfl rfl (Nat.le_of_ble_eq_true rfl) d_Ou_expectEnd_52 (fun H locs hP hD hS => ?_)
      have hP : va_P D vwCl [(qo, .inr (3, [.int (o 0), .int (o 1), .int (o 2), .int (o 3), .int (o 4), .int 366, .int 1, .int (o 7), .int (o 8)])), (qg, k_Sc g)] H := hP
      have hD : va_D A [(qo, .inr (3, [.int (o 0), .int (o 1), .int (o 2), .int (o 3), .int (o 4), .int 366, .int 1, .int (o 7), .int (o 8)])), (qg, k_Sc g)] := hD
      refine lv_aload_n hx hb d_Ou_expectEnd_55 rfl (lv_at hl 1 rfl) ?_
      refine lv_iload_n hx hb d_Ou_expectEnd_56 rfl (lv_at hl 0 rfl) ?_
      refine lv_if_eq (tgt := 67) hx hb d_Ou_expectEnd_57 (by decide) (fun c_10 => ?_) (fun c_10 => ?_)
      · refine lv_aload_n hx hb d_Ou_expectEnd_67 rfl (lv_at hl 1 rfl) ?_
        refine va_get (D := D) (ci := 3) (v := .int (o 1)) (C := R_Ou) (T := T_Ou) (N := 9) hx hb hu in_Ou hown hK hP 0 rfl rfl 1 (by decide) (hu _ hw_167) (fun _ h9 => h9) rfl d_Ou_expectEnd_68 ?_
        refine va_put (D := D) (ci := 3) (v := .int (o 1)) (ty := .int) (C := R_Ou) (T := T_Ou) (N := 9) hx hb hu in_Ou t_Ou t_Ou_ok n_Ou hown hK hP hD hS 0 rfl rfl 7 (by decide) (hu _ hw_182) (fun _ h9 => h9) rfl (by decide +kernel) rfl rfl (Nat.le_of_ble_eq_true rfl) d_Ou_expectEnd_71 (fun H locs hP hD hS => ?_)
        have hP : va_P D vwCl [(qo, .inr (3, [.int (o 0), .int (o 1), .int (o 2), .int (o 3), .int (o 4), .int 366, .int 1, .int (o 1), .int (o 8)])), (qg, k_Sc g)] H := hP
        have hD : va_D A [(qo, .inr (3, [.int (o 0), .int (o 1), .int (o 2), .int (o 3), .int (o 4), .int 366, .int 1, .int (o 1), .int (o 8)])), (qg, k_Sc g)] := hD
        have hP9 : va_P D vwCl ([(qo, k_Ou (mk9 (o 0) (o 1) (o 2) (o 3) (o 4) 366 1 (o 1) (o 8))), (qg, k_Sc g)]) H := hP.sub [0, 1] rfl
        have hD9 : va_D A ([(qo, k_Ou (mk9 (o 0) (o 1) (o 2) (o 3) (o 4) 366 1 (o 1) (o 8))), (qg, k_Sc g)]) := hD.sub [0, 1] (by decide) rfl
        exact W.vret hx hb hr (fun t ht hW => ⟨⟨(mk9 (o 0) (o 1) (o 2) (o 3) (o 4) 366 1 (o 1) (o 8)), rfl, by rw [f_expectEnd, e_1, f_expectEnd_2, if_neg c_3, if_neg c_9, if_pos c_10], by rw [ht]; exact hP9, va_K.moved hW.alike (hK.sub [] rfl), hD9⟩, hS.F ht⟩) hS.2.2 d_Ou_expectEnd_74
      · refine lv_aload_n hx hb d_Ou_expectEnd_60 rfl (lv_at hl 1 rfl) ?_
        refine va_get (D := D) (ci := 3) (v := .int (o 0)) (C := R_Ou) (T := T_Ou) (N := 9) hx hb hu in_Ou hown hK hP 0 rfl rfl 0 (by decide) (hu _ hw_164) (fun _ h9 => h9) rfl d_Ou_expectEnd_61 ?_
        refine lv_goto (tgt := 71) hx hb d_Ou_expectEnd_64 (by decide) ?_
        refine va_put (D := D) (ci := 3) (v := .int (o 0)) (ty := .int) (C := R_Ou) (T := T_Ou) (N := 9) hx hb hu in_Ou t_Ou t_Ou_ok n_Ou hown hK hP hD hS 0 rfl rfl 7 (by decide) (hu _ hw_182) (fun _ h9 => h9) rfl (by decide +kernel) rfl rfl (Nat.le_of_ble_eq_true rfl) d_Ou_expectEnd_71 (fun H locs hP hD hS => ?_)
        have hP : va_P D vwCl [(qo, .inr (3, [.int (o 0), .int (o 1), .int (o 2), .int (o 3), .int (o 4), .int 366, .int 1, .int (o 0), .int (o 8)])), (qg, k_Sc g)] H := hP
        have hD : va_D A [(qo, .inr (3, [.int (o 0), .int (o 1), .int (o 2), .int (o 3), .int (o 4), .int 366, .int 1, .int (o 0), .int (o 8)])), (qg, k_Sc g)] := hD
        have hP9 : va_P D vwCl ([(qo, k_Ou (mk9 (o 0) (o 1) (o 2) (o 3) (o 4) 366 1 (o 0) (o 8))), (qg, k_Sc g)]) H := hP.sub [0, 1] rfl
        have hD9 : va_D A ([(qo, k_Ou (mk9 (o 0) (o 1) (o 2) (o 3) (o 4) 366 1 (o 0) (o 8))), (qg, k_Sc g)]) := hD.sub [0, 1] (by decide) rfl
        exact W.vret hx hb hr (fun t ht hW => ⟨⟨(mk9 (o 0) (o 1) (o 2) (o 3) (o 4) 366 1 (o 0) (o 8)), rfl, by rw [f_expectEnd, e_1, f_expectEnd_2, if_neg c_3, if_neg c_9, if_neg c_10], by rw [ht]; exact hP9, va_K.moved hW.alike (hK.sub [] rfl), hD9⟩, hS.F ht⟩) hS.2.2 d_Ou_expectEnd_74
    · refine lv_aload_n hx hb d_Ou_expectEnd_36 rfl (lv_at hl 1 rfl) ?_
      refine va_get (D := D) (ci := 3) (v := .int (o 0)) (C := R_Ou) (T := T_Ou) (N := 9) hx hb hu in_Ou hown hK hP 0 rfl rfl 0 (by decide) (hu _ hw_164) (fun _ h9 => h9) rfl d_Ou_expectEnd_37 ?_
      refine lv_aload_n hx hb d_Ou_expectEnd_40 rfl (lv_at hl 1 rfl) ?_
      refine va_get (D := D) (ci := 3) (v := .int (o 1)) (C := R_Ou) (T := T_Ou) (N := 9) hx hb hu in_Ou hown hK hP 0 rfl rfl 1 (by decide) (hu _ hw_167) (fun _ h9 => h9) rfl d_Ou_expectEnd_41 ?_
      refine lv_icmp_le (tgt := 51) hx hb d_Ou_expectEnd_44 (by decide) (fun c_11 => ?_) (fun c_11 => ?_)
      · refine lv_iconst (v := 1) hx hb d_Ou_expectEnd_51 (by decide) ?_
        refine va_put (D := D) (ci := 3) (v := .int 1) (ty := .int) (C := R_Ou) (T := T_Ou) (N := 9) hx hb hu in_Ou t_Ou t_Ou_ok n_Ou hown hK hP hD hS 0 rfl rfl 6 (by decide) (hu _ hw_180) (fun _ h9 => h9) rfl (by decide +kernel) rfl rfl (Nat.le_of_ble_eq_true rfl) d_Ou_expectEnd_52 (fun H locs hP hD hS => ?_)
        have hP : va_P D vwCl [(qo, .inr (3, [.int (o 0), .int (o 1), .int (o 2), .int (o 3), .int (o 4), .int 366, .int 1, .int (o 7), .int (o 8)])), (qg, k_Sc g)] H := hP
        have hD : va_D A [(qo, .inr (3, [.int (o 0), .int (o 1), .int (o 2), .int (o 3), .int (o 4), .int 366, .int 1, .int (o 7), .int (o 8)])), (qg, k_Sc g)] := hD
        refine lv_aload_n hx hb d_Ou_expectEnd_55 rfl (lv_at hl 1 rfl) ?_
        refine lv_iload_n hx hb d_Ou_expectEnd_56 rfl (lv_at hl 0 rfl) ?_
        refine lv_if_eq (tgt := 67) hx hb d_Ou_expectEnd_57 (by decide) (fun c_12 => ?_) (fun c_12 => ?_)
        · refine lv_aload_n hx hb d_Ou_expectEnd_67 rfl (lv_at hl 1 rfl) ?_
          refine va_get (D := D) (ci := 3) (v := .int (o 1)) (C := R_Ou) (T := T_Ou) (N := 9) hx hb hu in_Ou hown hK hP 0 rfl rfl 1 (by decide) (hu _ hw_167) (fun _ h9 => h9) rfl d_Ou_expectEnd_68 ?_
          refine va_put (D := D) (ci := 3) (v := .int (o 1)) (ty := .int) (C := R_Ou) (T := T_Ou) (N := 9) hx hb hu in_Ou t_Ou t_Ou_ok n_Ou hown hK hP hD hS 0 rfl rfl 7 (by decide) (hu _ hw_182) (fun _ h9 => h9) rfl (by decide +kernel) rfl rfl (Nat.le_of_ble_eq_true rfl) d_Ou_expectEnd_71 (fun H locs hP hD hS => ?_)
          have hP : va_P D vwCl [(qo, .inr (3, [.int (o 0), .int (o 1), .int (o 2), .int (o 3), .int (o 4), .int 366, .int 1, .int (o 1), .int (o 8)])), (qg, k_Sc g)] H := hP
          have hD : va_D A [(qo, .inr (3, [.int (o 0), .int (o 1), .int (o 2), .int (o 3), .int (o 4), .int 366, .int 1, .int (o 1), .int (o 8)])), (qg, k_Sc g)] := hD
          have hP9 : va_P D vwCl ([(qo, k_Ou (mk9 (o 0) (o 1) (o 2) (o 3) (o 4) 366 1 (o 1) (o 8))), (qg, k_Sc g)]) H := hP.sub [0, 1] rfl
          have hD9 : va_D A ([(qo, k_Ou (mk9 (o 0) (o 1) (o 2) (o 3) (o 4) 366 1 (o 1) (o 8))), (qg, k_Sc g)]) := hD.sub [0, 1] (by decide) rfl
          exact W.vret hx hb hr (fun t ht hW => ⟨⟨(mk9 (o 0) (o 1) (o 2) (o 3) (o 4) 366 1 (o 1) (o 8)), rfl, by rw [f_expectEnd, e_1, f_expectEnd_2, if_neg c_3, if_pos c_9, if_pos c_11, if_pos c_12], by rw [ht]; exact hP9, va_K.moved hW.alike (hK.sub [] rfl), hD9⟩, hS.F ht⟩) hS.2.2 d_Ou_expectEnd_74
        · refine lv_aload_n hx hb d_Ou_expectEnd_60 rfl (lv_at hl 1 rfl) ?_
          refine va_get (D := D) (ci := 3) (v := .int (o 0)) (C := R_Ou) (T := T_Ou) (N := 9) hx hb hu in_Ou hown hK hP 0 rfl rfl 0 (by decide) (hu _ hw_164) (fun _ h9 => h9) rfl d_Ou_expectEnd_61 ?_
          refine lv_goto (tgt := 71) hx hb d_Ou_expectEnd_64 (by decide) ?_
          refine va_put (D := D) (ci := 3) (v := .int (o 0)) (ty := .int) (C := R_Ou) (T := T_Ou) (N := 9) hx hb hu in_Ou t_Ou t_Ou_ok n_Ou hown hK hP hD hS 0 rfl rfl 7 (by decide) (hu _ hw_182) (fun _ h9 => h9) rfl (by decide +kernel) rfl rfl (Nat.le_of_ble_eq_true rfl) d_Ou_expectEnd_71 (fun H locs hP hD hS => ?_)
          have hP : va_P D vwCl [(qo, .inr (3, [.int (o 0), .int (o 1), .int (o 2), .int (o 3), .int (o 4), .int 366, .int 1, .int (o 0), .int (o 8)])), (qg, k_Sc g)] H := hP
          have hD : va_D A [(qo, .inr (3, [.int (o 0), .int (o 1), .int (o 2), .int (o 3), .int (o 4), .int 366, .int 1, .int (o 0), .int (o 8)])), (qg, k_Sc g)] := hD
          have hP9 : va_P D vwCl ([(qo, k_Ou (mk9 (o 0) (o 1) (o 2) (o 3) (o 4) 366 1 (o 0) (o 8))), (qg, k_Sc g)]) H := hP.sub [0, 1] rfl
          have hD9 : va_D A ([(qo, k_Ou (mk9 (o 0) (o 1) (o 2) (o 3) (o 4) 366 1 (o 0) (o 8))), (qg, k_Sc g)]) := hD.sub [0, 1] (by decide) rfl
          exact W.vret hx hb hr (fun t ht hW => ⟨⟨(mk9 (o 0) (o 1) (o 2) (o 3) (o 4) 366 1 (o 0) (o 8)), rfl, by rw [f_expectEnd, e_1, f_expectEnd_2, if_neg c_3, if_pos c_9, if_pos c_11, if_neg c_12], by rw [ht]; exact hP9, va_K.moved hW.alike (hK.sub [] rfl), hD9⟩, hS.F ht⟩) hS.2.2 d_Ou_expectEnd_74
      · refine lv_iconst (v := -1) hx hb d_Ou_expectEnd_47 (by decide) ?_
        refine lv_goto (tgt := 52) hx hb d_Ou_expectEnd_48 (by decide) ?_
        refine va_put (D := D) (ci := 3) (v := .int (-1)) (ty := .int) (C := R_Ou) (T := T_Ou) (N := 9) hx hb hu in_Ou t_Ou t_Ou_ok n_Ou hown hK hP hD hS 0 rfl rfl 6 (by decide) (hu _ hw_180) (fun _ h9 => h9) rfl (by decide +kernel) rfl rfl (Nat.le_of_ble_eq_true rfl) d_Ou_expectEnd_52 (fun H locs hP hD hS => ?_)
        have hP : va_P D vwCl [(qo, .inr (3, [.int (o 0), .int (o 1), .int (o 2), .int (o 3), .int (o 4), .int 366, .int (-1), .int (o 7), .int (o 8)])), (qg, k_Sc g)] H := hP
        have hD : va_D A [(qo, .inr (3, [.int (o 0), .int (o 1), .int (o 2), .int (o 3), .int (o 4), .int 366, .int (-1), .int (o 7), .int (o 8)])), (qg, k_Sc g)] := hD
        refine lv_aload_n hx hb d_Ou_expectEnd_55 rfl (lv_at hl 1 rfl) ?_
        refine lv_iload_n hx hb d_Ou_expectEnd_56 rfl (lv_at hl 0 rfl) ?_
        refine lv_if_eq (tgt := 67) hx hb d_Ou_expectEnd_57 (by decide) (fun c_13 => ?_) (fun c_13 => ?_)
        · refine lv_aload_n hx hb d_Ou_expectEnd_67 rfl (lv_at hl 1 rfl) ?_
          refine va_get (D := D) (ci := 3) (v := .int (o 1)) (C := R_Ou) (T := T_Ou) (N := 9) hx hb hu in_Ou hown hK hP 0 rfl rfl 1 (by decide) (hu _ hw_167) (fun _ h9 => h9) rfl d_Ou_expectEnd_68 ?_
          refine va_put (D := D) (ci := 3) (v := .int (o 1)) (ty := .int) (C := R_Ou) (T := T_Ou) (N := 9) hx hb hu in_Ou t_Ou t_Ou_ok n_Ou hown hK hP hD hS 0 rfl rfl 7 (by decide) (hu _ hw_182) (fun _ h9 => h9) rfl (by decide +kernel) rfl rfl (Nat.le_of_ble_eq_true rfl) d_Ou_expectEnd_71 (fun H locs hP hD hS => ?_)
          have hP : va_P D vwCl [(qo, .inr (3, [.int (o 0), .int (o 1), .int (o 2), .int (o 3), .int (o 4), .int 366, .int (-1), .int (o 1), .int (o 8)])), (qg, k_Sc g)] H := hP
          have hD : va_D A [(qo, .inr (3, [.int (o 0), .int (o 1), .int (o 2), .int (o 3), .int (o 4), .int 366, .int (-1), .int (o 1), .int (o 8)])), (qg, k_Sc g)] := hD
          have hP9 : va_P D vwCl ([(qo, k_Ou (mk9 (o 0) (o 1) (o 2) (o 3) (o 4) 366 (-1) (o 1) (o 8))), (qg, k_Sc g)]) H := hP.sub [0, 1] rfl
          have hD9 : va_D A ([(qo, k_Ou (mk9 (o 0) (o 1) (o 2) (o 3) (o 4) 366 (-1) (o 1) (o 8))), (qg, k_Sc g)]) := hD.sub [0, 1] (by decide) rfl
          exact W.vret hx hb hr (fun t ht hW => ⟨⟨(mk9 (o 0) (o 1) (o 2) (o 3) (o 4) 366 (-1) (o 1) (o 8)), rfl, by rw [f_expectEnd, e_1, f_expectEnd_2, if_neg c_3, if_pos c_9, if_neg c_11, if_pos c_13], by rw [ht]; exact hP9, va_K.moved hW.alike (hK.sub [] rfl), hD9⟩, hS.F ht⟩) hS.2.2 d_Ou_expectEnd_74
        · refine lv_aload_n hx hb d_Ou_expectEnd_60 rfl (lv_at hl 1 rfl) ?_
          refine va_get (D := D) (ci := 3) (v := .int (o 0)) (C := R_Ou) (T := T_Ou) (N := 9) hx hb hu in_Ou hown hK hP 0 rfl rfl 0 (by decide) (hu _ hw_164) (fun _ h9 => h9) rfl d_Ou_expectEnd_61 ?_
          refine lv_goto (tgt := 71) hx hb d_Ou_expectEnd_64 (by decide) ?_
          refine va_put (D := D) (ci := 3) (v := .int (o 0)) (ty := .int) (C := R_Ou) (T := T_Ou) (N := 9) hx hb hu in_Ou t_Ou t_Ou_ok n_Ou hown hK hP hD hS 0 rfl rfl 7 (by decide) (hu _ hw_182) (fun _ h9 => h9) rfl (by decide +kernel) rfl rfl (Nat.le_of_ble_eq_true rfl) d_Ou_expectEnd_71 (fun H locs hP hD hS => ?_)
          have hP : va_P D vwCl [(qo, .inr (3, [.int (o 0), .int (o 1), .int (o 2), .int (o 3), .int (o 4), .int 366, .int (-1), .int (o 0), .int (o 8)])), (qg, k_Sc g)] H := hP
          have hD : va_D A [(qo, .inr (3, [.int (o 0), .int (o 1), .int (o 2), .int (o 3), .int (o 4), .int 366, .int (-1), .int (o 0), .int (o 8)])), (qg, k_Sc g)] := hD
          have hP9 : va_P D vwCl ([(qo, k_Ou (mk9 (o 0) (o 1) (o 2) (o 3) (o 4) 366 (-1) (o 0) (o 8))), (qg, k_Sc g)]) H := hP.sub [0, 1] rfl
          have hD9 : va_D A ([(qo, k_Ou (mk9 (o 0) (o 1) (o 2) (o 3) (o 4) 366 (-1) (o 0) (o 8))), (qg, k_Sc g)]) := hD.sub [0, 1] (by decide) rfl
          exact W.vret hx hb hr (fun t ht hW => ⟨⟨(mk9 (o 0) (o 1) (o 2) (o 3) (o 4) 366 (-1) (o 0) (o 8)), rfl, by rw [f_expectEnd, e_1, f_expectEnd_2, if_neg c_3, if_pos c_9, if_neg c_11, if_neg c_13], by rw [ht]; exact hP9, va_K.moved hW.alike (hK.sub [] rfl), hD9⟩, hS.F ht⟩) hS.2.2 d_Ou_expectEnd_74
def f_moved (g : Nat → Int32) (o : Nat → Int32) (v : Int32) : Int32 := (o 7) + (((o 6) * v) * (g 2))
set_option maxHeartbeats 4000000 in
set_option maxRecDepth 100000 in
theorem c_moved (l : Launch) (D : va_G) (sa : Nat → Nat) (sz : Nat) (qo : Nat) (qg : Nat) (g : Nat → Int32) (o : Nat → Int32) (v : Int32)  : Met l y_Ou_moved w_Ou_moved ({ frames := 0, cells := 0, slots := 0, locals := 0 }) (va_Pc [.ref qo, .int v, .ref qg] (vq_pre D sa [(qo, k_Ou o), (qg, k_Sc g)] [] sz)) (va_Qi (fun (r0 : Int32) (u : Unit) => f_moved g o v = r0) (vq_B D (va_A [(qo, k_Ou o), (qg, k_Sc g)] sz) [] (fun (u : Unit) => [(qo, k_Ou o), (qg, k_Sc g)])) (va_A [(qo, k_Ou o), (qg, k_Sc g)] sz)) 0 0 (va_A [(qo, k_Ou o), (qg, k_Sc g)] sz) := by
  refine Met.ofW (cc := b_Ou_moved) (maxL := 3) (ret := (some .int)) (by decide) rfl ?_
  intro p e s m args below meth c s₁ B hml hv
  obtain ⟨rfl, hsz, hP, hK, hD0, hE⟩ := hv
  have hx := B.exec
  have hb := B.bytes
  have hr := B.returns
  have hts := atoms_spec (ws := w_Ou_moved) B.pre
  have hu : ∀ w9 ∈ vU, Cond.before w9 ([.ref qo, .int v, .ref qg]).toArray s = true := fun w9 h => hts w9 (List.mem_cons_of_mem _ h)
  have hown : s.vm.findClass R_Ou = some m.cls := findClass_of_methodNamed B.named
  have hlocks := B.notSynchronized
  subst hsz
  have hD := hD0.self (sz := s.heap.size)
  generalize hAe : va_A [(qo, k_Ou o), (qg, k_Sc g)] s.heap.size = A at hD ⊢
  have hA : ∀ q : Nat, s.heap.size ≤ q → A q := fun q h => by rw [← hAe]; exact Or.inr h
  have hS : va_S A s.heap s.heap [] := va_S.rf
  have hP : va_P D vwCl [(qo, k_Ou o), (qg, k_Sc g)] s.heap := hP
  have hl := lv_entry ([.ref qo, .int v, .ref qg]) (n := 3) (Nat.le_of_ble_eq_true rfl)
  rw [lg_entry_eq]
  generalize (lg_sl ([.ref qo, .int v, .ref qg]) ++ List.replicate (3 - (lg_sl ([.ref qo, .int v, .ref qg])).length) Slot.unset).toArray = ls at hl ⊢
  have hl : lv_has ls 3 [(0, .ref qo), (1, .int v), (2, .ref qg)] := hl
  refine lv_aload_n hx hb d_Ou_moved_0 rfl (lv_at hl 0 rfl) ?_
  refine va_get (D := D) (ci := 3) (v := .int (o 7)) (C := R_Ou) (T := T_Ou) (N := 9) hx hb hu in_Ou hown hK hP 0 rfl rfl 7 (by decide) (hu _ hw_182) (fun _ h9 => h9) rfl d_Ou_moved_1 ?_
  refine lv_aload_n hx hb d_Ou_moved_4 rfl (lv_at hl 0 rfl) ?_
  refine va_get (D := D) (ci := 3) (v := .int (o 6)) (C := R_Ou) (T := T_Ou) (N := 9) hx hb hu in_Ou hown hK hP 0 rfl rfl 6 (by decide) (hu _ hw_180) (fun _ h9 => h9) rfl d_Ou_moved_5 ?_
  refine lv_iload_n hx hb d_Ou_moved_8 rfl (lv_at hl 1 rfl) ?_
  refine lv_imul hx hb d_Ou_moved_9 ?_
  refine lv_aload_n hx hb d_Ou_moved_10 rfl (lv_at hl 2 rfl) ?_
  refine va_get (D := D) (ci := 1) (v := .int (g 2)) (C := R_Sc) (T := T_Sc) (N := 8) hx hb hu in_Sc hown hK hP 1 rfl rfl 2 (by decide) (hu _ hw_86) (fun _ h9 => h9) rfl d_Ou_moved_11 ?_
  refine lv_imul hx hb d_Ou_moved_14 ?_
  refine lv_iadd hx hb d_Ou_moved_15 ?_
  have hP9 : va_P D vwCl ([(qo, k_Ou o), (qg, k_Sc g)]) s.heap := hP.sub [0, 1] rfl
  have hD9 : va_D A ([(qo, k_Ou o), (qg, k_Sc g)]) := hD.sub [0, 1] (by decide) rfl
  exact W.iret (v := (o 7) + (((o 6) * v) * (g 2))) hx hb hr (fun t ht hW => ⟨⟨(o 7) + (((o 6) * v) * (g 2)), (), rfl, by rw [f_moved], by rw [ht]; exact hP9, va_K.moved hW.alike (hK.sub [] rfl), hD9⟩, hS.F ht⟩) hS.2.2 d_Ou_moved_16
def f_expectByGradients_13 (g : Nat → Int32) (x : Nat → Nat → Int32) (o : Nat → Int32) (r_1 : Int32) (r_3 : Int32) (r_5 : Int32) (r_8 : Int32) (r_10 : Int32) (r_12 : Int32) : Nat → Int32 := (mk9 (o 0) (o 1) (o 2) (o 3) (o 4) (1 * (((81 * r_1) + (9 * r_3)) + r_5)) 1 r_12 (o 8))
def f_expectByGradients_11 (g : Nat → Int32) (x : Nat → Nat → Int32) (o : Nat → Int32) (r_1 : Int32) (r_3 : Int32) (r_5 : Int32) (r_8 : Int32) (r_10 : Int32) : Nat → Int32 := f_expectByGradients_13 g x o r_1 r_3 r_5 r_8 r_10 (f_asSample g (r_8 + (1 * r_10)))
def f_expectByGradients_9 (g : Nat → Int32) (x : Nat → Nat → Int32) (o : Nat → Int32) (r_1 : Int32) (r_3 : Int32) (r_5 : Int32) (r_8 : Int32) : Nat → Int32 := f_expectByGradients_11 g x o r_1 r_3 r_5 r_8 (f_correction g x (1 * (((81 * r_1) + (9 * r_3)) + r_5)))
def f_expectByGradients_19 (g : Nat → Int32) (x : Nat → Nat → Int32) (o : Nat → Int32) (r_1 : Int32) (r_3 : Int32) (r_5 : Int32) (r_14 : Int32) (r_16 : Int32) (r_18 : Int32) : Nat → Int32 := (mk9 (o 0) (o 1) (o 2) (o 3) (o 4) ((-1) * (((81 * r_1) + (9 * r_3)) + r_5)) (-1) r_18 (o 8))
def f_expectByGradients_17 (g : Nat → Int32) (x : Nat → Nat → Int32) (o : Nat → Int32) (r_1 : Int32) (r_3 : Int32) (r_5 : Int32) (r_14 : Int32) (r_16 : Int32) : Nat → Int32 := f_expectByGradients_19 g x o r_1 r_3 r_5 r_14 r_16 (f_asSample g (r_14 + ((-1) * r_16)))
def f_expectByGradients_15 (g : Nat → Int32) (x : Nat → Nat → Int32) (o : Nat → Int32) (r_1 : Int32) (r_3 : Int32) (r_5 : Int32) (r_14 : Int32) : Nat → Int32 := f_expectByGradients_17 g x o r_1 r_3 r_5 r_14 (f_correction g x ((-1) * (((81 * r_1) + (9 * r_3)) + r_5)))
def f_expectByGradients_6 (g : Nat → Int32) (x : Nat → Nat → Int32) (o : Nat → Int32) (r_1 : Int32) (r_3 : Int32) (r_5 : Int32) : Nat → Int32 :=
  if 0 ≤ (((81 * r_1) + (9 * r_3)) + r_5) then f_expectByGradients_9 g x o r_1 r_3 r_5 (f_median (mk9 (o 0) (o 1) (o 2) (o 3) (o 4) (1 * (((81 * r_1) + (9 * r_3)) + r_5)) 1 (o 7) (o 8)))
  else f_expectByGradients_15 g x o r_1 r_3 r_5 (f_median (mk9 (o 0) (o 1) (o 2) (o 3) (o 4) ((-1) * (((81 * r_1) + (9 * r_3)) + r_5)) (-1) (o 7) (o 8)))
def f_expectByGradients_4 (g : Nat → Int32) (x : Nat → Nat → Int32) (o : Nat → Int32) (r_1 : Int32) (r_3 : Int32) : Nat → Int32 := f_expectByGradients_6 g x o r_1 r_3 (f_steepness g ((o 2) - (o 0)))
def f_expectByGradients_2 (g : Nat → Int32) (x : Nat → Nat → Int32) (o : Nat → Int32) (r_1 : Int32) : Nat → Int32 := f_expectByGradients_4 g x o r_1 (f_steepness g ((o 1) - (o 2)))
def f_expectByGradients (g : Nat → Int32) (x : Nat → Nat → Int32) (o : Nat → Int32) : Nat → Int32 := f_expectByGradients_2 g x o (f_steepness g ((o 3) - (o 1)))
set_option maxHeartbeats 4000000 in
set_option maxRecDepth 100000 in
theorem c_expectByGradients (l : Launch) (D : va_G) (sa : Nat → Nat) (sz : Nat) (qo : Nat) (qc : Nat) (qg : Nat) (ad : Nat → Nat) (ca : Nat → ClassId) (g : Nat → Int32) (x : Nat → Nat → Int32) (o : Nat → Int32)  : Met l y_Ou_expectByGradients w_Ou_expectByGradients ({ frames := 3, cells := 0, slots := 0, locals := 57 }) (va_Pc [.ref qo, .ref qg, .ref qc] (vq_pre D sa [(qo, k_Ou o), (qc, k_Co qg ad), (qg, k_Sc g), (ad 0, .inl (ca 0, 367, .inl (x 0))), (ad 1, .inl (ca 1, 367, .inl (x 1))), (ad 2, .inl (ca 2, 367, .inl (x 2))), (ad 3, .inl (ca 3, 367, .inl (x 3)))] [(ca 0, .int), (ca 1, .int), (ca 2, .int), (ca 3, .int)] sz)) (va_Qv (fun (u : (Nat → Int32)) => f_expectByGradients g x o = u) (vq_B D (va_A [(qo, k_Ou o), (qc, k_Co qg ad), (qg, k_Sc g), (ad 0, .inl (ca 0, 367, .inl (x 0))), (ad 1, .inl (ca 1, 367, .inl (x 1))), (ad 2, .inl (ca 2, 367, .inl (x 2))), (ad 3, .inl (ca 3, 367, .inl (x 3)))] sz) [(ca 0, .int), (ca 1, .int), (ca 2, .int), (ca 3, .int)] (fun (u : (Nat → Int32)) => [(qo, k_Ou u), (qc, k_Co qg ad), (qg, k_Sc g), (ad 0, .inl (ca 0, 367, .inl (x 0))), (ad 1, .inl (ca 1, 367, .inl (x 1))), (ad 2, .inl (ca 2, 367, .inl (x 2))), (ad 3, .inl (ca 3, 367, .inl (x 3)))])) (va_A [(qo, k_Ou o), (qc, k_Co qg ad), (qg, k_Sc g), (ad 0, .inl (ca 0, 367, .inl (x 0))), (ad 1, .inl (ca 1, 367, .inl (x 1))), (ad 2, .inl (ca 2, 367, .inl (x 2))), (ad 3, .inl (ca 3, 367, .inl (x 3)))] sz)) 0 0 (va_A [(qo, k_Ou o), (qc, k_Co qg ad), (qg, k_Sc g), (ad 0, .inl (ca 0, 367, .inl (x 0))), (ad 1, .inl (ca 1, 367, .inl (x 1))), (ad 2, .inl (ca 2, 367, .inl (x 2))), (ad 3, .inl (ca 3, 367, .inl (x 3)))] sz) := by
  refine Met.ofW (cc := b_Ou_expectByGradients) (maxL := 4) (ret := none) (by decide) rfl ?_
  intro p e s m args below meth c s₁ B hml hv
  obtain ⟨rfl, hsz, hP, hK, hD0, hE⟩ := hv
  have hx := B.exec
  have hb := B.bytes
  have hr := B.returns
  have hts := atoms_spec (ws := w_Ou_expectByGradients) B.pre
  have hu : ∀ w9 ∈ vU, Cond.before w9 ([.ref qo, .ref qg, .ref qc]).toArray s = true := fun w9 h => hts w9 (List.mem_cons_of_mem _ h)
  have hown : s.vm.findClass R_Ou = some m.cls := findClass_of_methodNamed B.named
  have hlocks := B.notSynchronized
  subst hsz
  have hD := hD0.self (sz := s.heap.size)
  generalize hAe : va_A [(qo, k_Ou o), (qc, k_Co qg ad), (qg, k_Sc g), (ad 0, .inl (ca 0, 367, .inl (x 0))), (ad 1, .inl (ca 1, 367, .inl (x 1))), (ad 2, .inl (ca 2, 367, .inl (x 2))), (ad 3, .inl (ca 3, 367, .inl (x 3)))] s.heap.size = A at hD ⊢
  have hA : ∀ q : Nat, s.heap.size ≤ q → A q := fun q h => by rw [← hAe]; exact Or.inr h
  have hS : va_S A s.heap s.heap [] := va_S.rf
  have hP : va_P D vwCl [(qo, k_Ou o), (qc, k_Co qg ad), (qg, k_Sc g), (ad 0, .inl (ca 0, 367, .inl (x 0))), (ad 1, .inl (ca 1, 367, .inl (x 1))), (ad 2, .inl (ca 2, 367, .inl (x 2))), (ad 3, .inl (ca 3, 367, .inl (x 3)))] s.heap := hP
  have hl := lv_entry ([.ref qo, .ref qg, .ref qc]) (n := 4) (Nat.le_of_ble_eq_true rfl)
  rw [lg_entry_eq]
  generalize (lg_sl ([.ref qo, .ref qg, .ref qc]) ++ List.replicate (4 - (lg_sl ([.ref qo, .ref qg, .ref qc])).length) Slot.unset).toArray = ls at hl ⊢
  have hl : lv_has ls 4 [(0, .ref qo), (1, .ref qg), (2, .ref qc)] := hl
  refine lv_bipush (v := 81) hx hb d_Ou_expectByGradients_0 (by decide) ?_
  refine lv_aload_n hx hb d_Ou_expectByGradients_2 rfl (lv_at hl 1 rfl) ?_
  refine lv_aload_n hx hb d_Ou_expectByGradients_3 rfl (lv_at hl 0 rfl) ?_
  refine va_get (D := D) (ci := 3) (v := .int (o 3)) (C := R_Ou) (T := T_Ou) (N := 9) hx hb hu in_Ou hown hK hP 0 rfl rfl 3 (by decide) (hu _ hw_174) (fun _ h9 => h9) rfl d_Ou_expectByGradients_4 ?_
  refine lv_aload_n hx hb d_Ou_expectByGradients_7 rfl (lv_at hl 0 rfl) ?_
  refine va_get (D := D) (ci := 3) (v := .int (o 1)) (C := R_Ou) (T := T_Ou) (N := 9) hx hb hu in_Ou hown hK hP 0 rfl rfl 1 (by decide) (hu _ hw_167) (fun _ h9 => h9) rfl d_Ou_expectByGradients_8 ?_
  refine lv_isub hx hb d_Ou_expectByGradients_11 ?_
  refine vq_i (wr := [(qo, k_Ou o), (qc, k_Co qg ad), (ad 0, .inl (ca 0, 367, .inl (x 0))), (ad 1, .inl (ca 1, 367, .inl (x 1))), (ad 2, .inl (ca 2, 367, .inl (x 2))), (ad 3, .inl (ca 3, 367, .inl (x 3)))]) (va_runV (As := [.int ((o 3) - (o 1))]) (rest := [.int 81]) ⟨hx, hb, hml, hown, hts⟩ (c_steepness l D sa s.heap.size qg g ((o 3) - (o 1))) (cwV 1 hts (vg_V (fun w h => List.mem_cons_of_mem _ h) hw_343 hw_344 hw_345 hw_34 hw_346) rfl rfl rfl (by decide +kernel) ⟨Nat.le_of_ble_eq_true rfl, Nat.le_of_ble_eq_true rfl⟩) (vq_pV hE hK hP hD [2] [] rfl (by decide) rfl 1 2 rfl rfl rfl) rfl rfl hl.1 rfl (lv_room (Nat.le_of_ble_eq_true rfl)) d_Ou_expectByGradients_12 ⟨Nat.le_of_ble_eq_true rfl, Nat.le_of_ble_eq_true rfl⟩) hP hD hS hA [2] [0, 1, 3, 4, 5, 6] rfl rfl (by decide) (by decide) (fun r_1 u_1 H locs e_1 hP hD hS => ?_)
  have hP : va_P D vwCl [(qo, k_Ou o), (qc, k_Co qg ad), (ad 0, .inl (ca 0, 367, .inl (x 0))), (ad 1, .inl (ca 1, 367, .inl (x 1))), (ad 2, .inl (ca 2, 367, .inl (x 2))), (ad 3, .inl (ca 3, 367, .inl (x 3))), (qg, k_Sc g)] H := hP
  have hD : va_D A [(qo, k_Ou o), (qc, k_Co qg ad), (ad 0, .inl (ca 0, 367, .inl (x 0))), (ad 1, .inl (ca 1, 367, .inl (x 1))), (ad 2, .inl (ca 2, 367, .inl (x 2))), (ad 3, .inl (ca 3, 367, .inl (x 3))), (qg, k_Sc g)] := hD
  refine lv_imul hx hb d_Ou_expectByGradients_15 ?_
  refine lv_bipush (v := 9) hx hb d_Ou_expectByGradients_16 (by decide) ?_
  refine lv_aload_n hx hb d_Ou_expectByGradients_18 rfl (lv_at hl 1 rfl) ?_
  refine lv_aload_n hx hb d_Ou_expectByGradients_19 rfl (lv_at hl 0 rfl) ?_
  refine va_get (D := D) (ci := 3) (v := .int (o 1)) (C := R_Ou) (T := T_Ou) (N := 9) hx hb hu in_Ou hown hK hP 0 rfl rfl 1 (by decide) (hu _ hw_167) (fun _ h9 => h9) rfl d_Ou_expectByGradients_20 ?_
  refine lv_aload_n hx hb d_Ou_expectByGradients_23 rfl (lv_at hl 0 rfl) ?_
  refine va_get (D := D) (ci := 3) (v := .int (o 2)) (C := R_Ou) (T := T_Ou) (N := 9) hx hb hu in_Ou hown hK hP 0 rfl rfl 2 (by decide) (hu _ hw_171) (fun _ h9 => h9) rfl d_Ou_expectByGradients_24 ?_
  refine lv_isub hx hb d_Ou_expectByGradients_27 ?_
  refine vq_i (wr := [(qo, k_Ou o), (qc, k_Co qg ad), (ad 0, .inl (ca 0, 367, .inl (x 0))), (ad 1, .inl (ca 1, 367, .inl (x 1))), (ad 2, .inl (ca 2, 367, .inl (x 2))), (ad 3, .inl (ca 3, 367, .inl (x 3)))]) (va_runV (As := [.int ((o 1) - (o 2))]) (rest := [.int 9, .int (81 * r_1)]) ⟨hx, hb, hml, hown, hts⟩ (c_steepness l D sa H.size qg g ((o 1) - (o 2))) (cwV 1 hts (vg_V (fun w h => List.mem_cons_of_mem _ h) hw_343 hw_344 hw_345 hw_34 hw_346) rfl rfl rfl (by decide +kernel) ⟨Nat.le_of_ble_eq_true rfl, Nat.le_of_ble_eq_true rfl⟩) (vq_pV hE hK hP hD [6] [] rfl (by decide) rfl 1 6 rfl rfl rfl) rfl rfl hl.1 rfl (lv_room (Nat.le_of_ble_eq_true rfl)) d_Ou_expectByGradients_28 ⟨Nat.le_of_ble_eq_true rfl, Nat.le_of_ble_eq_true rfl⟩) hP hD hS hA [6] [0, 1, 2, 3, 4, 5] rfl rfl (by decide) (by decide) (fun r_3 u_3 H locs e_3 hP hD hS => ?_)
  have hP : va_P D vwCl [(qo, k_Ou o), (qc, k_Co qg ad), (ad 0, .inl (ca 0, 367, .inl (x 0))), (ad 1, .inl (ca 1, 367, .inl (x 1))), (ad 2, .inl (ca 2, 367, .inl (x 2))), (ad 3, .inl (ca 3, 367, .inl (x 3))), (qg, k_Sc g)] H := hP
  have hD : va_D A [(qo, k_Ou o), (qc, k_Co qg ad), (ad 0, .inl (ca 0, 367, .inl (x 0))), (ad 1, .inl (ca 1, 367, .inl (x 1))), (ad 2, .inl (ca 2, 367, .inl (x 2))), (ad 3, .inl (ca 3, 367, .inl (x 3))), (qg, k_Sc g)] := hD
  refine lv_imul hx hb d_Ou_expectByGradients_31 ?_
  refine lv_iadd hx hb d_Ou_expectByGradients_32 ?_
  refine lv_aload_n hx hb d_Ou_expectByGradients_33 rfl (lv_at hl 1 rfl) ?_
  refine lv_aload_n hx hb d_Ou_expectByGradients_34 rfl (lv_at hl 0 rfl) ?_
  refine va_get (D := D) (ci := 3) (v := .int (o 2)) (C := R_Ou) (T := T_Ou) (N := 9) hx hb hu in_Ou hown hK hP 0 rfl rfl 2 (by decide) (hu _ hw_171) (fun _ h9 => h9) rfl d_Ou_expectByGradients_35 ?_
  refine lv_aload_n hx hb d_Ou_expectByGradients_38 rfl (lv_at hl 0 rfl) ?_
  refine va_get (D := D) (ci := 3) (v := .int (o 0)) (C := R_Ou) (T := T_Ou) (N := 9) hx hb hu in_Ou hown hK hP 0 rfl rfl 0 (by decide) (hu _ hw_164) (fun _ h9 => h9) rfl d_Ou_expectByGradients_39 ?_
  refine lv_isub hx hb d_Ou_expectByGradients_42 ?_
  refine vq_i (wr := [(qo, k_Ou o), (qc, k_Co qg ad), (ad 0, .inl (ca 0, 367, .inl (x 0))), (ad 1, .inl (ca 1, 367, .inl (x 1))), (ad 2, .inl (ca 2, 367, .inl (x 2))), (ad 3, .inl (ca 3, 367, .inl (x 3)))]) (va_runV (As := [.int ((o 2) - (o 0))]) (rest := [.int ((81 * r_1) + (9 * r_3))]) ⟨hx, hb, hml, hown, hts⟩ (c_steepness l D sa H.size qg g ((o 2) - (o 0))) (cwV 1 hts (vg_V (fun w h => List.mem_cons_of_mem _ h) hw_343 hw_344 hw_345 hw_34 hw_346) rfl rfl rfl (by decide +kernel) ⟨Nat.le_of_ble_eq_true rfl, Nat.le_of_ble_eq_true rfl⟩) (vq_pV hE hK hP hD [6] [] rfl (by decide) rfl 1 6 rfl rfl rfl) rfl rfl hl.1 rfl (lv_room (Nat.le_of_ble_eq_true rfl)) d_Ou_expectByGradients_43 ⟨Nat.le_of_ble_eq_true rfl, Nat.le_of_ble_eq_true rfl⟩) hP hD hS hA [6] [0, 1, 2, 3, 4, 5] rfl rfl (by decide) (by decide) (fun r_5 u_5 H locs e_5 hP hD hS => ?_)
  have hP : va_P D vwCl [(qo, k_Ou o), (qc, k_Co qg ad), (ad 0, .inl (ca 0, 367, .inl (x 0))), (ad 1, .inl (ca 1, 367, .inl (x 1))), (ad 2, .inl (ca 2, 367, .inl (x 2))), (ad 3, .inl (ca 3, 367, .inl (x 3))), (qg, k_Sc g)] H := hP
  have hD : va_D A [(qo, k_Ou o), (qc, k_Co qg ad), (ad 0, .inl (ca 0, 367, .inl (x 0))), (ad 1, .inl (ca 1, 367, .inl (x 1))), (ad 2, .inl (ca 2, 367, .inl (x 2))), (ad 3, .inl (ca 3, 367, .inl (x 3))), (qg, k_Sc g)] := hD
  refine lv_iadd hx hb d_Ou_expectByGradients_46 ?_
  refine lv_istore_n (lv' := [(3, .int (((81 * r_1) + (9 * r_3)) + r_5)), (0, .ref qo), (1, .ref qg), (2, .ref qc)]) hx hb d_Ou_expectByGradients_47 rfl hl (by decide) rfl (fun ls hl => ?_)
  refine lv_aload_n hx hb d_Ou_expectByGradients_48 rfl (lv_at hl 1 rfl) ?_
  refine lv_iload_n hx hb d_Ou_expectByGradients_49 rfl (lv_at hl 0 rfl) ?_
  refine lv_if_ge (tgt := 57) hx hb d_Ou_expectByGradients_50 (by decide) (fun c_7 => ?_) (fun c_7 => ?_)
  · refine lv_iconst (v := 1) hx hb d_Ou_expectByGradients_57 (by decide) ?_
    refine va_put (D := D) (ci := 3) (v := .int 1) (ty := .int) (C := R_Ou) (T := T_Ou) (N := 9) hx hb hu in_Ou t_Ou t_Ou_ok n_Ou hown hK hP hD hS 0 rfl rfl 6 (by decide) (hu _ hw_180) (fun _ h9 => h9) rfl (by decide +kernel) rfl rfl (Nat.le_of_ble_eq_true rfl) d_Ou_expectByGradients_58 (fun H locs hP hD hS => ?_)
    have hP : va_P D vwCl [(qo, .inr (3, [.int (o 0), .int (o 1), .int (o 2), .int (o 3), .int (o 4), .int (o 5), .int 1, .int (o 7), .int (o 8)])), (qc, k_Co qg ad), (ad 0, .inl (ca 0, 367, .inl (x 0))), (ad 1, .inl (ca 1, 367, .inl (x 1))), (ad 2, .inl (ca 2, 367, .inl (x 2))), (ad 3, .inl (ca 3, 367, .inl (x 3))), (qg, k_Sc g)] H := hP
    have hD : va_D A [(qo, .inr (3, [.int (o 0), .int (o 1), .int (o 2), .int (o 3), .int (o 4), .int (o 5), .int 1, .int (o 7), .int (o 8)])), (qc, k_Co qg ad), (ad 0, .inl (ca 0, 367, .inl (x 0))), (ad 1, .inl (ca 1, 367, .inl (x 1))), (ad 2, .inl (ca 2, 367, .inl (x 2))), (ad 3, .inl (ca 3, 367, .inl (x 3))), (qg, k_Sc g)] := hD
    refine lv_aload_n hx hb d_Ou_expectByGradients_61 rfl (lv_at hl 1 rfl) ?_
    refine lv_aload_n hx hb d_Ou_expectByGradients_62 rfl (lv_at hl 1 rfl) ?_
    refine va_get (D := D) (ci := 3) (v := .int 1) (C := R_Ou) (T := T_Ou) (N := 9) hx hb hu in_Ou hown hK hP 0 rfl rfl 6 (by decide) (hu _ hw_180) (fun _ h9 => h9) rfl d_Ou_expectByGradients_63 ?_
    refine lv_iload_n hx hb d_Ou_expectByGradients_66 rfl (lv_at hl 0 rfl) ?_
    refine lv_imul hx hb d_Ou_expectByGradients_67 ?_
    refine va_put (D := D) (ci := 3) (v := .int (1 * (((81 * r_1) + (9 * r_3)) + r_5))) (ty := .int) (C := R_Ou) (T := T_Ou) (N := 9) hx hb hu in_Ou t_Ou t_Ou_ok n_Ou hown hK hP hD hS 0 rfl rfl 5 (by decide) (hu _ hw_178) (fun _ h9 => h9) rfl (by decide +kernel) rfl rfl (Nat.le_of_ble_eq_true rfl) d_Ou_expectByGradients_68 (fun H locs hP hD hS => ?_)
    have hP : va_P D vwCl [(qo, .inr (3, [.int (o 0), .int (o 1), .int (o 2), .int (o 3), .int (o 4), .int (1 * (((81 * r_1) + (9 * r_3)) + r_5)), .int 1, .int (o 7), .int (o 8)])), (qc, k_Co qg ad), (ad 0, .inl (ca 0, 367, .inl (x 0))), (ad 1, .inl (ca 1, 367, .inl (x 1))), (ad 2, .inl (ca 2, 367, .inl (x 2))), (ad 3, .inl (ca 3, 367, .inl (x 3))), (qg, k_Sc g)] H := hP
    have hD : va_D A [(qo, .inr (3, [.int (o 0), .int (o 1), .int (o 2), .int (o 3), .int (o 4), .int (1 * (((81 * r_1) + (9 * r_3)) + r_5)), .int 1, .int (o 7), .int (o 8)])), (qc, k_Co qg ad), (ad 0, .inl (ca 0, 367, .inl (x 0))), (ad 1, .inl (ca 1, 367, .inl (x 1))), (ad 2, .inl (ca 2, 367, .inl (x 2))), (ad 3, .inl (ca 3, 367, .inl (x 3))), (qg, k_Sc g)] := hD
    refine lv_aload_n hx hb d_Ou_expectByGradients_71 rfl (lv_at hl 1 rfl) ?_
    refine lv_aload_n hx hb d_Ou_expectByGradients_72 rfl (lv_at hl 2 rfl) ?_
    refine lv_aload_n hx hb d_Ou_expectByGradients_73 rfl (lv_at hl 1 rfl) ?_
    refine vq_i (wr := [(qc, k_Co qg ad), (ad 0, .inl (ca 0, 367, .inl (x 0))), (ad 1, .inl (ca 1, 367, .inl (x 1))), (ad 2, .inl (ca 2, 367, .inl (x 2))), (ad 3, .inl (ca 3, 367, .inl (x 3))), (qg, k_Sc g)]) (va_runV (As := []) (rest := [.ref qg, .ref qo]) ⟨hx, hb, hml, hown, hts⟩ (c_median l D sa H.size qo (mk9 (o 0) (o 1) (o 2) (o 3) (o 4) (1 * (((81 * r_1) + (9 * r_3)) + r_5)) 1 (o 7) (o 8))) (cwV 0 hts (vg_V (fun w h => List.mem_cons_of_mem _ h) hw_347 hw_348 hw_5 hw_38 hw_349) rfl rfl rfl (by decide +kernel) ⟨Nat.le_of_ble_eq_true rfl, Nat.le_of_ble_eq_true rfl⟩) (vq_pV hE hK hP hD [0] [] rfl (by decide) rfl 3 0 rfl rfl rfl) rfl rfl hl.1 rfl (lv_room (Nat.le_of_ble_eq_true rfl)) d_Ou_expectByGradients_74 ⟨Nat.le_of_ble_eq_true rfl, Nat.le_of_ble_eq_true rfl⟩) hP hD hS hA [0] [1, 2, 3, 4, 5, 6] rfl rfl (by decide) (by decide) (fun r_8 u_8 H locs e_8 hP hD hS => ?_)
    have hP : va_P D vwCl [(qc, k_Co qg ad), (ad 0, .inl (ca 0, 367, .inl (x 0))), (ad 1, .inl (ca 1, 367, .inl (x 1))), (ad 2, .inl (ca 2, 367, .inl (x 2))), (ad 3, .inl (ca 3, 367, .inl (x 3))), (qg, k_Sc g), (qo, .inr (3, [.int (o 0), .int (o 1), .int (o 2), .int (o 3), .int (o 4), .int (1 * (((81 * r_1) + (9 * r_3)) + r_5)), .int 1, .int (o 7), .int (o 8)]))] H := hP
    have hD : va_D A [(qc, k_Co qg ad), (ad 0, .inl (ca 0, 367, .inl (x 0))), (ad 1, .inl (ca 1, 367, .inl (x 1))), (ad 2, .inl (ca 2, 367, .inl (x 2))), (ad 3, .inl (ca 3, 367, .inl (x 3))), (qg, k_Sc g), (qo, .inr (3, [.int (o 0), .int (o 1), .int (o 2), .int (o 3), .int (o 4), .int (1 * (((81 * r_1) + (9 * r_3)) + r_5)), .int 1, .int (o 7), .int (o 8)]))] := hD
    refine lv_aload_n hx hb d_Ou_expectByGradients_77 rfl (lv_at hl 1 rfl) ?_
    refine va_get (D := D) (ci := 3) (v := .int 1) (C := R_Ou) (T := T_Ou) (N := 9) hx hb hu in_Ou hown hK hP 6 rfl rfl 6 (by decide) (hu _ hw_180) (fun _ h9 => h9) rfl d_Ou_expectByGradients_78 ?_
    refine lv_aload_n hx hb d_Ou_expectByGradients_81 rfl (lv_at hl 3 rfl) ?_
    refine lv_aload_n hx hb d_Ou_expectByGradients_82 rfl (lv_at hl 1 rfl) ?_
    refine va_get (D := D) (ci := 3) (v := .int (1 * (((81 * r_1) + (9 * r_3)) + r_5))) (C := R_Ou) (T := T_Ou) (N := 9) hx hb hu in_Ou hown hK hP 6 rfl rfl 5 (by decide) (hu _ hw_178) (fun _ h9 => h9) rfl d_Ou_expectByGradients_83 ?_
    refine vq_i (wr := [(qo, .inr (3, [.int (o 0), .int (o 1), .int (o 2), .int (o 3), .int (o 4), .int (1 * (((81 * r_1) + (9 * r_3)) + r_5)), .int 1, .int (o 7), .int (o 8)]))]) (va_runV (As := [.int (1 * (((81 * r_1) + (9 * r_3)) + r_5))]) (rest := [.int 1, .int r_8, .ref qg, .ref qo]) ⟨hx, hb, hml, hown, hts⟩ (c_correction l D sa H.size qc qg ad ca g x (1 * (((81 * r_1) + (9 * r_3)) + r_5))) (cwV 1 hts (vg_V (fun w h => List.mem_cons_of_mem _ h) hw_352 hw_353 hw_354 hw_36 hw_355) rfl rfl rfl (by decide +kernel) ⟨Nat.le_of_ble_eq_true rfl, Nat.le_of_ble_eq_true rfl⟩) (vq_pV hE hK hP hD [0, 5, 1, 2, 3, 4] [0, 1, 2, 3] rfl (by decide) rfl 4 0 rfl rfl rfl) rfl rfl hl.1 rfl (lv_room (Nat.le_of_ble_eq_true rfl)) d_Ou_expectByGradients_86 ⟨Nat.le_of_ble_eq_true rfl, Nat.le_of_ble_eq_true rfl⟩) hP hD hS hA [0, 5, 1, 2, 3, 4] [6] rfl rfl (by decide) (by decide) (fun r_10 u_10 H locs e_10 hP hD hS => ?_)
    have hP : va_P D vwCl [(qo, .inr (3, [.int (o 0), .int (o 1), .int (o 2), .int (o 3), .int (o 4), .int (1 * (((81 * r_1) + (9 * r_3)) + r_5)), .int 1, .int (o 7), .int (o 8)])), (qc, k_Co qg ad), (qg, k_Sc g), (ad 0, .inl (ca 0, 367, .inl (x 0))), (ad 1, .inl (ca 1, 367, .inl (x 1))), (ad 2, .inl (ca 2, 367, .inl (x 2))), (ad 3, .inl (ca 3, 367, .inl (x 3)))] H := hP
    have hD : va_D A [(qo, .inr (3, [.int (o 0), .int (o 1), .int (o 2), .int (o 3), .int (o 4), .int (1 * (((81 * r_1) + (9 * r_3)) + r_5)), .int 1, .int (o 7), .int (o 8)])), (qc, k_Co qg ad), (qg, k_Sc g), (ad 0, .inl (ca 0, 367, .inl (x 0))), (ad 1, .inl (ca 1, 367, .inl (x 1))), (ad 2, .inl (ca 2, 367, .inl (x 2))), (ad 3, .inl (ca 3, 367, .inl (x 3)))] := hD
    refine lv_imul hx hb d_Ou_expectByGradients_89 ?_
    refine lv_iadd hx hb d_Ou_expectByGradients_90 ?_
    refine vq_i (wr := [(qo, .inr (3, [.int (o 0), .int (o 1), .int (o 2), .int (o 3), .int (o 4), .int (1 * (((81 * r_1) + (9 * r_3)) + r_5)), .int 1, .int (o 7), .int (o 8)])), (qc, k_Co qg ad), (ad 0, .inl (ca 0, 367, .inl (x 0))), (ad 1, .inl (ca 1, 367, .inl (x 1))), (ad 2, .inl (ca 2, 367, .inl (x 2))), (ad 3, .inl (ca 3, 367, .inl (x 3)))]) (va_runV (As := [.int (r_8 + (1 * r_10))]) (rest := [.ref qo]) ⟨hx, hb, hml, hown, hts⟩ (c_asSample l D sa H.size qg g (r_8 + (1 * r_10))) (cwV 1 hts (vg_V (fun w h => List.mem_cons_of_mem _ h) hw_359 hw_360 hw_361 hw_34 hw_362) rfl rfl rfl (by decide +kernel) ⟨Nat.le_of_ble_eq_true rfl, Nat.le_of_ble_eq_true rfl⟩) (vq_pV hE hK hP hD [2] [] rfl (by decide) rfl 1 2 rfl rfl rfl) rfl rfl hl.1 rfl (lv_room (Nat.le_of_ble_eq_true rfl)) d_Ou_expectByGradients_91 ⟨Nat.le_of_ble_eq_true rfl, Nat.le_of_ble_eq_true rfl⟩) hP hD hS hA [2] [0, 1, 3, 4, 5, 6] rfl rfl (by decide) (by decide) (fun r_12 u_12 H locs e_12 hP hD hS => ?_)
    have hP : va_P D vwCl [(qo, .inr (3, [.int (o 0), .int (o 1), .int (o 2), .int (o 3), .int (o 4), .int (1 * (((81 * r_1) + (9 * r_3)) + r_5)), .int 1, .int (o 7), .int (o 8)])), (qc, k_Co qg ad), (ad 0, .inl (ca 0, 367, .inl (x 0))), (ad 1, .inl (ca 1, 367, .inl (x 1))), (ad 2, .inl (ca 2, 367, .inl (x 2))), (ad 3, .inl (ca 3, 367, .inl (x 3))), (qg, k_Sc g)] H := hP
    have hD : va_D A [(qo, .inr (3, [.int (o 0), .int (o 1), .int (o 2), .int (o 3), .int (o 4), .int (1 * (((81 * r_1) + (9 * r_3)) + r_5)), .int 1, .int (o 7), .int (o 8)])), (qc, k_Co qg ad), (ad 0, .inl (ca 0, 367, .inl (x 0))), (ad 1, .inl (ca 1, 367, .inl (x 1))), (ad 2, .inl (ca 2, 367, .inl (x 2))), (ad 3, .inl (ca 3, 367, .inl (x 3))), (qg, k_Sc g)] := hD
    refine va_put (D := D) (ci := 3) (v := .int r_12) (ty := .int) (C := R_Ou) (T := T_Ou) (N := 9) hx hb hu in_Ou t_Ou t_Ou_ok n_Ou hown hK hP hD hS 0 rfl rfl 7 (by decide) (hu _ hw_182) (fun _ h9 => h9) rfl (by decide +kernel) rfl rfl (Nat.le_of_ble_eq_true rfl) d_Ou_expectByGradients_94 (fun H locs hP hD hS => ?_)
    have hP : va_P D vwCl [(qo, .inr (3, [.int (o 0), .int (o 1), .int (o 2), .int (o 3), .int (o 4), .int (1 * (((81 * r_1) + (9 * r_3)) + r_5)), .int 1, .int r_12, .int (o 8)])), (qc, k_Co qg ad), (ad 0, .inl (ca 0, 367, .inl (x 0))), (ad 1, .inl (ca 1, 367, .inl (x 1))), (ad 2, .inl (ca 2, 367, .inl (x 2))), (ad 3, .inl (ca 3, 367, .inl (x 3))), (qg, k_Sc g)] H := hP
    have hD : va_D A [(qo, .inr (3, [.int (o 0), .int (o 1), .int (o 2), .int (o 3), .int (o 4), .int (1 * (((81 * r_1) + (9 * r_3)) + r_5)), .int 1, .int r_12, .int (o 8)])), (qc, k_Co qg ad), (ad 0, .inl (ca 0, 367, .inl (x 0))), (ad 1, .inl (ca 1, 367, .inl (x 1))), (ad 2, .inl (ca 2, 367, .inl (x 2))), (ad 3, .inl (ca 3, 367, .inl (x 3))), (qg, k_Sc g)] := hD
    have hP9 : va_P D vwCl ([(qo, k_Ou (mk9 (o 0) (o 1) (o 2) (o 3) (o 4) (1 * (((81 * r_1) + (9 * r_3)) + r_5)) 1 r_12 (o 8))), (qc, k_Co qg ad), (qg, k_Sc g), (ad 0, .inl (ca 0, 367, .inl (x 0))), (ad 1, .inl (ca 1, 367, .inl (x 1))), (ad 2, .inl (ca 2, 367, .inl (x 2))), (ad 3, .inl (ca 3, 367, .inl (x 3)))]) H := hP.sub [0, 1, 6, 2, 3, 4, 5] rfl
    have hD9 : va_D A ([(qo, k_Ou (mk9 (o 0) (o 1) (o 2) (o 3) (o 4) (1 * (((81 * r_1) + (9 * r_3)) + r_5)) 1 r_12 (o 8))), (qc, k_Co qg ad), (qg, k_Sc g), (ad 0, .inl (ca 0, 367, .inl (x 0))), (ad 1, .inl (ca 1, 367, .inl (x 1))), (ad 2, .inl (ca 2, 367, .inl (x 2))), (ad 3, .inl (ca 3, 367, .inl (x 3)))]) := hD.sub [0, 1, 6, 2, 3, 4, 5] (by decide) rfl
    exact W.vret hx hb hr (fun t ht hW => ⟨⟨(mk9 (o 0) (o 1) (o 2) (o 3) (o 4) (1 * (((81 * r_1) + (9 * r_3)) + r_5)) 1 r_12 (o 8)), rfl, by rw [f_expectByGradients, e_1, f_expectByGradients_2, e_3, f_expectByGradients_4, e_5, f_expectByGradients_6, if_pos c_7, e_8, f_expectByGradients_9, e_10, f_expectByGradients_11, e_12, f_expectByGradients_13], by rw [ht]; exact hP9, va_K.moved hW.alike (hK.sub [0, 1, 2, 3] rfl), hD9⟩, hS.F ht⟩) hS.2.2 d_Ou_expectByGradients_97
  · refine lv_iconst (v := -1) hx hb d_Ou_expectByGradients_53 (by decide) ?_
    refine lv_goto (tgt := 58) hx hb d_Ou_expectByGradients_54 (by decide) ?_
    refine va_put (D := D) (ci := 3) (v := .int (-1)) (ty := .int) (C := R_Ou) (T := T_Ou) (N := 9) hx hb hu in_Ou t_Ou t_Ou_ok n_Ou hown hK hP hD hS 0 rfl rfl 6 (by decide) (hu _ hw_180) (fun _ h9 => h9) rfl (by decide +kernel) rfl rfl (Nat.le_of_ble_eq_true rfl) d_Ou_expectByGradients_58 (fun H locs hP hD hS => ?_)
    have hP : va_P D vwCl [(qo, .inr (3, [.int (o 0), .int (o 1), .int (o 2), .int (o 3), .int (o 4), .int (o 5), .int (-1), .int (o 7), .int (o 8)])), (qc, k_Co qg ad), (ad 0, .inl (ca 0, 367, .inl (x 0))), (ad 1, .inl (ca 1, 367, .inl (x 1))), (ad 2, .inl (ca 2, 367, .inl (x 2))), (ad 3, .inl (ca 3, 367, .inl (x 3))), (qg, k_Sc g)] H := hP
    have hD : va_D A [(qo, .inr (3, [.int (o 0), .int (o 1), .int (o 2), .int (o 3), .int (o 4), .int (o 5), .int (-1), .int (o 7), .int (o 8)])), (qc, k_Co qg ad), (ad 0, .inl (ca 0, 367, .inl (x 0))), (ad 1, .inl (ca 1, 367, .inl (x 1))), (ad 2, .inl (ca 2, 367, .inl (x 2))), (ad 3, .inl (ca 3, 367, .inl (x 3))), (qg, k_Sc g)] := hD
    refine lv_aload_n hx hb d_Ou_expectByGradients_61 rfl (lv_at hl 1 rfl) ?_
    refine lv_aload_n hx hb d_Ou_expectByGradients_62 rfl (lv_at hl 1 rfl) ?_
    refine va_get (D := D) (ci := 3) (v := .int (-1)) (C := R_Ou) (T := T_Ou) (N := 9) hx hb hu in_Ou hown hK hP 0 rfl rfl 6 (by decide) (hu _ hw_180) (fun _ h9 => h9) rfl d_Ou_expectByGradients_63 ?_
    refine lv_iload_n hx hb d_Ou_expectByGradients_66 rfl (lv_at hl 0 rfl) ?_
    refine lv_imul hx hb d_Ou_expectByGradients_67 ?_
    refine va_put (D := D) (ci := 3) (v := .int ((-1) * (((81 * r_1) + (9 * r_3)) + r_5))) (ty := .int) (C := R_Ou) (T := T_Ou) (N := 9) hx hb hu in_Ou t_Ou t_Ou_ok n_Ou hown hK hP hD hS 0 rfl rfl 5 (by decide) (hu _ hw_178) (fun _ h9 => h9) rfl (by decide +kernel) rfl rfl (Nat.le_of_ble_eq_true rfl) d_Ou_expectByGradients_68 (fun H locs hP hD hS => ?_)
    have hP : va_P D vwCl [(qo, .inr (3, [.int (o 0), .int (o 1), .int (o 2), .int (o 3), .int (o 4), .int ((-1) * (((81 * r_1) + (9 * r_3)) + r_5)), .int (-1), .int (o 7), .int (o 8)])), (qc, k_Co qg ad), (ad 0, .inl (ca 0, 367, .inl (x 0))), (ad 1, .inl (ca 1, 367, .inl (x 1))), (ad 2, .inl (ca 2, 367, .inl (x 2))), (ad 3, .inl (ca 3, 367, .inl (x 3))), (qg, k_Sc g)] H := hP
    have hD : va_D A [(qo, .inr (3, [.int (o 0), .int (o 1), .int (o 2), .int (o 3), .int (o 4), .int ((-1) * (((81 * r_1) + (9 * r_3)) + r_5)), .int (-1), .int (o 7), .int (o 8)])), (qc, k_Co qg ad), (ad 0, .inl (ca 0, 367, .inl (x 0))), (ad 1, .inl (ca 1, 367, .inl (x 1))), (ad 2, .inl (ca 2, 367, .inl (x 2))), (ad 3, .inl (ca 3, 367, .inl (x 3))), (qg, k_Sc g)] := hD
    refine lv_aload_n hx hb d_Ou_expectByGradients_71 rfl (lv_at hl 1 rfl) ?_
    refine lv_aload_n hx hb d_Ou_expectByGradients_72 rfl (lv_at hl 2 rfl) ?_
    refine lv_aload_n hx hb d_Ou_expectByGradients_73 rfl (lv_at hl 1 rfl) ?_
    refine vq_i (wr := [(qc, k_Co qg ad), (ad 0, .inl (ca 0, 367, .inl (x 0))), (ad 1, .inl (ca 1, 367, .inl (x 1))), (ad 2, .inl (ca 2, 367, .inl (x 2))), (ad 3, .inl (ca 3, 367, .inl (x 3))), (qg, k_Sc g)]) (va_runV (As := []) (rest := [.ref qg, .ref qo]) ⟨hx, hb, hml, hown, hts⟩ (c_median l D sa H.size qo (mk9 (o 0) (o 1) (o 2) (o 3) (o 4) ((-1) * (((81 * r_1) + (9 * r_3)) + r_5)) (-1) (o 7) (o 8))) (cwV 0 hts (vg_V (fun w h => List.mem_cons_of_mem _ h) hw_347 hw_348 hw_5 hw_38 hw_349) rfl rfl rfl (by decide +kernel) ⟨Nat.le_of_ble_eq_true rfl, Nat.le_of_ble_eq_true rfl⟩) (vq_pV hE hK hP hD [0] [] rfl (by decide) rfl 3 0 rfl rfl rfl) rfl rfl hl.1 rfl (lv_room (Nat.le_of_ble_eq_true rfl)) d_Ou_expectByGradients_74 ⟨Nat.le_of_ble_eq_true rfl, Nat.le_of_ble_eq_true rfl⟩) hP hD hS hA [0] [1, 2, 3, 4, 5, 6] rfl rfl (by decide) (by decide) (fun r_14 u_14 H locs e_14 hP hD hS => ?_)
    have hP : va_P D vwCl [(qc, k_Co qg ad), (ad 0, .inl (ca 0, 367, .inl (x 0))), (ad 1, .inl (ca 1, 367, .inl (x 1))), (ad 2, .inl (ca 2, 367, .inl (x 2))), (ad 3, .inl (ca 3, 367, .inl (x 3))), (qg, k_Sc g), (qo, .inr (3, [.int (o 0), .int (o 1), .int (o 2), .int (o 3), .int (o 4), .int ((-1) * (((81 * r_1) + (9 * r_3)) + r_5)), .int (-1), .int (o 7), .int (o 8)]))] H := hP
    have hD : va_D A [(qc, k_Co qg ad), (ad 0, .inl (ca 0, 367, .inl (x 0))), (ad 1, .inl (ca 1, 367, .inl (x 1))), (ad 2, .inl (ca 2, 367, .inl (x 2))), (ad 3, .inl (ca 3, 367, .inl (x 3))), (qg, k_Sc g), (qo, .inr (3, [.int (o 0), .int (o 1), .int (o 2), .int (o 3), .int (o 4), .int ((-1) * (((81 * r_1) + (9 * r_3)) + r_5)), .int (-1), .int (o 7), .int (o 8)]))] := hD
    refine lv_aload_n hx hb d_Ou_expectByGradients_77 rfl (lv_at hl 1 rfl) ?_
    refine va_get (D := D) (ci := 3) (v := .int (-1)) (C := R_Ou) (T := T_Ou) (N := 9) hx hb hu in_Ou hown hK hP 6 rfl rfl 6 (by decide) (hu _ hw_180) (fun _ h9 => h9) rfl d_Ou_expectByGradients_78 ?_
    refine lv_aload_n hx hb d_Ou_expectByGradients_81 rfl (lv_at hl 3 rfl) ?_
    refine lv_aload_n hx hb d_Ou_expectByGradients_82 rfl (lv_at hl 1 rfl) ?_
    refine va_get (D := D) (ci := 3) (v := .int ((-1) * (((81 * r_1) + (9 * r_3)) + r_5))) (C := R_Ou) (T := T_Ou) (N := 9) hx hb hu in_Ou hown hK hP 6 rfl rfl 5 (by decide) (hu _ hw_178) (fun _ h9 => h9) rfl d_Ou_expectByGradients_83 ?_
    refine vq_i (wr := [(qo, .inr (3, [.int (o 0), .int (o 1), .int (o 2), .int (o 3), .int (o 4), .int ((-1) * (((81 * r_1) + (9 * r_3)) + r_5)), .int (-1), .int (o 7), .int (o 8)]))]) (va_runV (As := [.int ((-1) * (((81 * r_1) + (9 * r_3)) + r_5))]) (rest := [.int (-1), .int r_14, .ref qg, .ref qo]) ⟨hx, hb, hml, hown, hts⟩ (c_correction l D sa H.size qc qg ad ca g x ((-1) * (((81 * r_1) + (9 * r_3)) + r_5))) (cwV 1 hts (vg_V (fun w h => List.mem_cons_of_mem _ h) hw_352 hw_353 hw_354 hw_36 hw_355) rfl rfl rfl (by decide +kernel) ⟨Nat.le_of_ble_eq_true rfl, Nat.le_of_ble_eq_true rfl⟩) (vq_pV hE hK hP hD [0, 5, 1, 2, 3, 4] [0, 1, 2, 3] rfl (by decide) rfl 4 0 rfl rfl rfl) rfl rfl hl.1 rfl (lv_room (Nat.le_of_ble_eq_true rfl)) d_Ou_expectByGradients_86 ⟨Nat.le_of_ble_eq_true rfl, Nat.le_of_ble_eq_true rfl⟩) hP hD hS hA [0, 5, 1, 2, 3, 4] [6] rfl rfl (by decide) (by decide) (fun r_16 u_16 H locs e_16 hP hD hS => ?_)
    have hP : va_P D vwCl [(qo, .inr (3, [.int (o 0), .int (o 1), .int (o 2), .int (o 3), .int (o 4), .int ((-1) * (((81 * r_1) + (9 * r_3)) + r_5)), .int (-1), .int (o 7), .int (o 8)])), (qc, k_Co qg ad), (qg, k_Sc g), (ad 0, .inl (ca 0, 367, .inl (x 0))), (ad 1, .inl (ca 1, 367, .inl (x 1))), (ad 2, .inl (ca 2, 367, .inl (x 2))), (ad 3, .inl (ca 3, 367, .inl (x 3)))] H := hP
    have hD : va_D A [(qo, .inr (3, [.int (o 0), .int (o 1), .int (o 2), .int (o 3), .int (o 4), .int ((-1) * (((81 * r_1) + (9 * r_3)) + r_5)), .int (-1), .int (o 7), .int (o 8)])), (qc, k_Co qg ad), (qg, k_Sc g), (ad 0, .inl (ca 0, 367, .inl (x 0))), (ad 1, .inl (ca 1, 367, .inl (x 1))), (ad 2, .inl (ca 2, 367, .inl (x 2))), (ad 3, .inl (ca 3, 367, .inl (x 3)))] := hD
    refine lv_imul hx hb d_Ou_expectByGradients_89 ?_
    refine lv_iadd hx hb d_Ou_expectByGradients_90 ?_
    refine vq_i (wr := [(qo, .inr (3, [.int (o 0), .int (o 1), .int (o 2), .int (o 3), .int (o 4), .int ((-1) * (((81 * r_1) + (9 * r_3)) + r_5)), .int (-1), .int (o 7), .int (o 8)])), (qc, k_Co qg ad), (ad 0, .inl (ca 0, 367, .inl (x 0))), (ad 1, .inl (ca 1, 367, .inl (x 1))), (ad 2, .inl (ca 2, 367, .inl (x 2))), (ad 3, .inl (ca 3, 367, .inl (x 3)))]) (va_runV (As := [.int (r_14 + ((-1) * r_16))]) (rest := [.ref qo]) ⟨hx, hb, hml, hown, hts⟩ (c_asSample l D sa H.size qg g (r_14 + ((-1) * r_16))) (cwV 1 hts (vg_V (fun w h => List.mem_cons_of_mem _ h) hw_359 hw_360 hw_361 hw_34 hw_362) rfl rfl rfl (by decide +kernel) ⟨Nat.le_of_ble_eq_true rfl, Nat.le_of_ble_eq_true rfl⟩) (vq_pV hE hK hP hD [2] [] rfl (by decide) rfl 1 2 rfl rfl rfl) rfl rfl hl.1 rfl (lv_room (Nat.le_of_ble_eq_true rfl)) d_Ou_expectByGradients_91 ⟨Nat.le_of_ble_eq_true rfl, Nat.le_of_ble_eq_true rfl⟩) hP hD hS hA [2] [0, 1, 3, 4, 5, 6] rfl rfl (by decide) (by decide) (fun r_18 u_18 H locs e_18 hP hD hS => ?_)
    have hP : va_P D vwCl [(qo, .inr (3, [.int (o 0), .int (o 1), .int (o 2), .int (o 3), .int (o 4), .int ((-1) * (((81 * r_1) + (9 * r_3)) + r_5)), .int (-1), .int (o 7), .int (o 8)])), (qc, k_Co qg ad), (ad 0, .inl (ca 0, 367, .inl (x 0))), (ad 1, .inl (ca 1, 367, .inl (x 1))), (ad 2, .inl (ca 2, 367, .inl (x 2))), (ad 3, .inl (ca 3, 367, .inl (x 3))), (qg, k_Sc g)] H := hP
    have hD : va_D A [(qo, .inr (3, [.int (o 0), .int (o 1), .int (o 2), .int (o 3), .int (o 4), .int ((-1) * (((81 * r_1) + (9 * r_3)) + r_5)), .int (-1), .int (o 7), .int (o 8)])), (qc, k_Co qg ad), (ad 0, .inl (ca 0, 367, .inl (x 0))), (ad 1, .inl (ca 1, 367, .inl (x 1))), (ad 2, .inl (ca 2, 367, .inl (x 2))), (ad 3, .inl (ca 3, 367, .inl (x 3))), (qg, k_Sc g)] := hD
    refine va_put (D := D) (ci := 3) (v := .int r_18) (ty := .int) (C := R_Ou) (T := T_Ou) (N := 9) hx hb hu in_Ou t_Ou t_Ou_ok n_Ou hown hK hP hD hS 0 rfl rfl 7 (by decide) (hu _ hw_182) (fun _ h9 => h9) rfl (by decide +kernel) rfl rfl (Nat.le_of_ble_eq_true rfl) d_Ou_expectByGradients_94 (fun H locs hP hD hS => ?_)
    have hP : va_P D vwCl [(qo, .inr (3, [.int (o 0), .int (o 1), .int (o 2), .int (o 3), .int (o 4), .int ((-1) * (((81 * r_1) + (9 * r_3)) + r_5)), .int (-1), .int r_18, .int (o 8)])), (qc, k_Co qg ad), (ad 0, .inl (ca 0, 367, .inl (x 0))), (ad 1, .inl (ca 1, 367, .inl (x 1))), (ad 2, .inl (ca 2, 367, .inl (x 2))), (ad 3, .inl (ca 3, 367, .inl (x 3))), (qg, k_Sc g)] H := hP
    have hD : va_D A [(qo, .inr (3, [.int (o 0), .int (o 1), .int (o 2), .int (o 3), .int (o 4), .int ((-1) * (((81 * r_1) + (9 * r_3)) + r_5)), .int (-1), .int r_18, .int (o 8)])), (qc, k_Co qg ad), (ad 0, .inl (ca 0, 367, .inl (x 0))), (ad 1, .inl (ca 1, 367, .inl (x 1))), (ad 2, .inl (ca 2, 367, .inl (x 2))), (ad 3, .inl (ca 3, 367, .inl (x 3))), (qg, k_Sc g)] := hD
    have hP9 : va_P D vwCl ([(qo, k_Ou (mk9 (o 0) (o 1) (o 2) (o 3) (o 4) ((-1) * (((81 * r_1) + (9 * r_3)) + r_5)) (-1) r_18 (o 8))), (qc, k_Co qg ad), (qg, k_Sc g), (ad 0, .inl (ca 0, 367, .inl (x 0))), (ad 1, .inl (ca 1, 367, .inl (x 1))), (ad 2, .inl (ca 2, 367, .inl (x 2))), (ad 3, .inl (ca 3, 367, .inl (x 3)))]) H := hP.sub [0, 1, 6, 2, 3, 4, 5] rfl
    have hD9 : va_D A ([(qo, k_Ou (mk9 (o 0) (o 1) (o 2) (o 3) (o 4) ((-1) * (((81 * r_1) + (9 * r_3)) + r_5)) (-1) r_18 (o 8))), (qc, k_Co qg ad), (qg, k_Sc g), (ad 0, .inl (ca 0, 367, .inl (x 0))), (ad 1, .inl (ca 1, 367, .inl (x 1))), (ad 2, .inl (ca 2, 367, .inl (x 2))), (ad 3, .inl (ca 3, 367, .inl (x 3)))]) := hD.sub [0, 1, 6, 2, 3, 4, 5] (by decide) rfl
    exact W.vret hx hb hr (fun t ht hW => ⟨⟨(mk9 (o 0) (o 1) (o 2) (o 3) (o 4) ((-1) * (((81 * r_1) + (9 * r_3)) + r_5)) (-1) r_18 (o 8)), rfl, by rw [f_expectByGradients, e_1, f_expectByGradients_2, e_3, f_expectByGradients_4, e_5, f_expectByGradients_6, if_neg c_7, e_14, f_expectByGradients_15, e_16, f_expectByGradients_17, e_18, f_expectByGradients_19], by rw [ht]; exact hP9, va_K.moved hW.alike (hK.sub [0, 1, 2, 3] rfl), hD9⟩, hS.F ht⟩) hS.2.2 d_Ou_expectByGradients_97
