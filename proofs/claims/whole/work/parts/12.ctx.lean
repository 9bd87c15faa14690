def f_has (q : Int32) : Int32 :=
  if q < 1 then 0
  else
    if 366 < q then 0
    else 1
set_option maxHeartbeats 4000000 in
set_option maxRecDepth 100000 in
theorem c_has (l : Launch) (D : va_G) (sa : Nat → Nat) (sz : Nat)  (q : Int32)  : Met l y_Co_has w_Co_has ({ frames := 0, cells := 0, slots := 0, locals := 0 }) (va_Pc [.int q] (vq_pre D sa [] [] sz)) (va_Qi (fun (r0 : Int32) (u : Unit) => f_has q = r0) (vq_B D (va_A [] sz) [] (fun (u : Unit) => [])) (va_A [] sz)) 0 0 (va_A [] sz) := by
  refine Met.ofW (cc := b_Co_has) (maxL := 1) (ret := (some .boolean)) (by decide) rfl ?_
  intro p e s m args below meth c s₁ B hml hv
  obtain ⟨rfl, hsz, hP, hK, hD0, hE⟩ := hv
  have hx := B.exec
  have hb := B.bytes
  have hr := B.returns
  have hts := atoms_spec (ws := w_Co_has) B.pre
  have hu : ∀ w9 ∈ vU, Cond.before w9 ([.int q]).toArray s = true := fun w9 h => hts w9 (List.mem_cons_of_mem _ h)
  have hown : s.vm.findClass R_Co = some m.cls := findClass_of_methodNamed B.named
  have hlocks := B.notSynchronized
  subst hsz
  have hD := hD0.self (sz := s.heap.size)
  generalize hAe : va_A [] s.heap.size = A at hD ⊢
  have hA : ∀ q : Nat, s.heap.size ≤ q → A q := fun q h => by rw [← hAe]; exact Or.inr h
  have hS : va_S A s.heap s.heap [] := va_S.rf
  have hP : va_P D vwCl [] s.heap := hP
  have hl := lv_entry ([.int q]) (n := 1) (Nat.le_of_ble_eq_true rfl)
  rw [lg_entry_eq]
  generalize (lg_sl ([.int q]) ++ List.replicate (1 - (lg_sl ([.int q])).length) Slot.unset).toArray = ls at hl ⊢
  have hl : lv_has ls 1 [(0, .int q)] := hl
  refine lv_iload_n hx hb d_Co_has_0 rfl (lv_at hl 0 rfl) ?_
  refine lv_iconst (v := 1) hx hb d_Co_has_1 (by decide) ?_
  refine lv_icmp_lt (tgt := 16) hx hb d_Co_has_2 (by decide) (fun c_1 => ?_) (fun c_1 => ?_)
  · refine lv_iconst (v := 0) hx hb d_Co_has_16 (by decide) ?_
    have hP9 : va_P D vwCl ([]) s.heap := hP.sub [] rfl
    have hD9 : va_D A ([]) := hD.sub [] (by decide) rfl
    exact W.zret (v := 0) hx hb hr rfl (fun t ht hW => ⟨⟨0, (), rfl, by rw [f_has, if_pos c_1], by rw [ht]; exact hP9, va_K.moved hW.alike (hK.sub [] rfl), hD9⟩, hS.F ht⟩) hS.2.2 d_Co_has_17
  · refine lv_iload_n hx hb d_Co_has_5 rfl (lv_at hl 0 rfl) ?_
    refine lv_sipush (v := 366) hx hb d_Co_has_6 (by decide) ?_
    refine lv_icmp_gt (tgt := 16) hx hb d_Co_has_9 (by decide) (fun c_2 => ?_) (fun c_2 => ?_)
    · refine lv_iconst (v := 0) hx hb d_Co_has_16 (by decide) ?_
      have hP9 : va_P D vwCl ([]) s.heap := hP.sub [] rfl
      have hD9 : va_D A ([]) := hD.sub [] (by decide) rfl
      exact W.zret (v := 0) hx hb hr rfl (fun t ht hW => ⟨⟨0, (), rfl, by rw [f_has, if_neg c_1, if_pos c_2], by rw [ht]; exact hP9, va_K.moved hW.alike (hK.sub [] rfl), hD9⟩, hS.F ht⟩) hS.2.2 d_Co_has_17
    · refine lv_iconst (v := 1) hx hb d_Co_has_12 (by decide) ?_
      refine lv_goto (tgt := 17) hx hb d_Co_has_13 (by decide) ?_
      have hP9 : va_P D vwCl ([]) s.heap := hP.sub [] rfl
      have hD9 : va_D A ([]) := hD.sub [] (by decide) rfl
      exact W.zret (v := 1) hx hb hr rfl (fun t ht hW => ⟨⟨1, (), rfl, by rw [f_has, if_neg c_1, if_neg c_2], by rw [ht]; exact hP9, va_K.moved hW.alike (hK.sub [] rfl), hD9⟩, hS.F ht⟩) hS.2.2 d_Co_has_17
theorem vq_has {q : Int32} (h : ¬ f_has q = 0) : vp_in q 367 := by
  rw [vp_in_iff]
  unfold f_has at h
  by_cases h1 : q < 1
  · rw [if_pos h1] at h; exact absurd rfl h
  · rw [if_neg h1] at h
    by_cases h2 : 366 < q
    · rw [if_pos h2] at h; exact absurd rfl h
    · rw [Int32.lt_iff_toInt_lt] at h1 h2
      have e1 : (1 : Int32).toInt = 1 := by decide
      have e2 : (366 : Int32).toInt = 366 := by decide
      rw [e1] at h1; rw [e2] at h2
      omega
theorem vq_hasr {q r : Int32} (e : f_has q = r) (h : ¬ r = 0) : vp_in q 367 := vq_has (by rw [e]; exact h)
def f_endsRun (q : Int32) : Int32 :=
  if q ≤ 364 then 0
  else 1
set_option maxHeartbeats 4000000 in
set_option maxRecDepth 100000 in
theorem c_endsRun (l : Launch) (D : va_G) (sa : Nat → Nat) (sz : Nat)  (q : Int32)  : Met l y_Co_endsRun w_Co_endsRun ({ frames := 0, cells := 0, slots := 0, locals := 0 }) (va_Pc [.int q] (vq_pre D sa [] [] sz)) (va_Qi (fun (r0 : Int32) (u : Unit) => f_endsRun q = r0) (vq_B D (va_A [] sz) [] (fun (u : Unit) => [])) (va_A [] sz)) 0 0 (va_A [] sz) := by
  refine Met.ofW (cc := b_Co_endsRun) (maxL := 1) (ret := (some .boolean)) (by decide) rfl ?_
  intro p e s m args below meth c s₁ B hml hv
  obtain ⟨rfl, hsz, hP, hK, hD0, hE⟩ := hv
  have hx := B.exec
  have hb := B.bytes
  have hr := B.returns
  have hts := atoms_spec (ws := w_Co_endsRun) B.pre
  have hu : ∀ w9 ∈ vU, Cond.before w9 ([.int q]).toArray s = true := fun w9 h => hts w9 (List.mem_cons_of_mem _ h)
  have hown : s.vm.findClass R_Co = some m.cls := findClass_of_methodNamed B.named
  have hlocks := B.notSynchronized
  subst hsz
  have hD := hD0.self (sz := s.heap.size)
  generalize hAe : va_A [] s.heap.size = A at hD ⊢
  have hA : ∀ q : Nat, s.heap.size ≤ q → A q := fun q h => by rw [← hAe]; exact Or.inr h
  have hS : va_S A s.heap s.heap [] := va_S.rf
  have hP : va_P D vwCl [] s.heap := hP
  have hl := lv_entry ([.int q]) (n := 1) (Nat.le_of_ble_eq_true rfl)
  rw [lg_entry_eq]
  generalize (lg_sl ([.int q]) ++ List.replicate (1 - (lg_sl ([.int q])).length) Slot.unset).toArray = ls at hl ⊢
  have hl : lv_has ls 1 [(0, .int q)] := hl
  refine lv_iload_n hx hb d_Co_endsRun_0 rfl (lv_at hl 0 rfl) ?_
  refine lv_sipush (v := 364) hx hb d_Co_endsRun_1 (by decide) ?_
  refine lv_icmp_le (tgt := 11) hx hb d_Co_endsRun_4 (by decide) (fun c_1 => ?_) (fun c_1 => ?_)
  · refine lv_iconst (v := 0) hx hb d_Co_endsRun_11 (by decide) ?_
    have hP9 : va_P D vwCl ([]) s.heap := hP.sub [] rfl
    have hD9 : va_D A ([]) := hD.sub [] (by decide) rfl
    exact W.zret (v := 0) hx hb hr rfl (fun t ht hW => ⟨⟨0, (), rfl, by rw [f_endsRun, if_pos c_1], by rw [ht]; exact hP9, va_K.moved hW.alike (hK.sub [] rfl), hD9⟩, hS.F ht⟩) hS.2.2 d_Co_endsRun_12
  · refine lv_iconst (v := 1) hx hb d_Co_endsRun_7 (by decide) ?_
    refine lv_goto (tgt := 12) hx hb d_Co_endsRun_8 (by decide) ?_
    have hP9 : va_P D vwCl ([]) s.heap := hP.sub [] rfl
    have hD9 : va_D A ([]) := hD.sub [] (by decide) rfl
    exact W.zret (v := 1) hx hb hr rfl (fun t ht hW => ⟨⟨1, (), rfl, by rw [f_endsRun, if_neg c_1], by rw [ht]; exact hP9, va_K.moved hW.alike (hK.sub [] rfl), hD9⟩, hS.F ht⟩) hS.2.2 d_Co_endsRun_12
def f_likeness (q : Int32) : Int32 :=
  if q = 366 then 1
  else 0
set_option maxHeartbeats 4000000 in
set_option maxRecDepth 100000 in
theorem c_likeness (l : Launch) (D : va_G) (sa : Nat → Nat) (sz : Nat)  (q : Int32)  : Met l y_Co_likeness w_Co_likeness ({ frames := 0, cells := 0, slots := 0, locals := 0 }) (va_Pc [.int q] (vq_pre D sa [] [] sz)) (va_Qi (fun (r0 : Int32) (u : Unit) => f_likeness q = r0) (vq_B D (va_A [] sz) [] (fun (u : Unit) => [])) (va_A [] sz)) 0 0 (va_A [] sz) := by
  refine Met.ofW (cc := b_Co_likeness) (maxL := 1) (ret := (some .int)) (by decide) rfl ?_
  intro p e s m args below meth c s₁ B hml hv
  obtain ⟨rfl, hsz, hP, hK, hD0, hE⟩ := hv
  have hx := B.exec
  have hb := B.bytes
  have hr := B.returns
  have hts := atoms_spec (ws := w_Co_likeness) B.pre
  have hu : ∀ w9 ∈ vU, Cond.before w9 ([.int q]).toArray s = true := fun w9 h => hts w9 (List.mem_cons_of_mem _ h)
  have hown : s.vm.findClass R_Co = some m.cls := findClass_of_methodNamed B.named
  have hlocks := B.notSynchronized
  subst hsz
  have hD := hD0.self (sz := s.heap.size)
  generalize hAe : va_A [] s.heap.size = A at hD ⊢
  have hA : ∀ q : Nat, s.heap.size ≤ q → A q := fun q h => by rw [← hAe]; exact Or.inr h
  have hS : va_S A s.heap s.heap [] := va_S.rf
  have hP : va_P D vwCl [] s.heap := hP
  have hl := lv_entry ([.int q]) (n := 1) (Nat.le_of_ble_eq_true rfl)
  rw [lg_entry_eq]
  generalize (lg_sl ([.int q]) ++ List.replicate (1 - (lg_sl ([.int q])).length) Slot.unset).toArray = ls at hl ⊢
  have hl : lv_has ls 1 [(0, .int q)] := hl
  refine lv_iload_n hx hb d_Co_likeness_0 rfl (lv_at hl 0 rfl) ?_
  refine lv_sipush (v := 366) hx hb d_Co_likeness_1 (by decide) ?_
  refine lv_icmp_ne (tgt := 11) hx hb d_Co_likeness_4 (by decide) (fun c_1 => ?_) (fun c_1 => ?_)
  · refine lv_iconst (v := 0) hx hb d_Co_likeness_11 (by decide) ?_
    have hP9 : va_P D vwCl ([]) s.heap := hP.sub [] rfl
    have hD9 : va_D A ([]) := hD.sub [] (by decide) rfl
    exact W.iret (v := 0) hx hb hr (fun t ht hW => ⟨⟨0, (), rfl, by rw [f_likeness, if_neg c_1], by rw [ht]; exact hP9, va_K.moved hW.alike (hK.sub [] rfl), hD9⟩, hS.F ht⟩) hS.2.2 d_Co_likeness_12
  · refine lv_iconst (v := 1) hx hb d_Co_likeness_7 (by decide) ?_
    refine lv_goto (tgt := 12) hx hb d_Co_likeness_8 (by decide) ?_
    have hP9 : va_P D vwCl ([]) s.heap := hP.sub [] rfl
    have hD9 : va_D A ([]) := hD.sub [] (by decide) rfl
    exact W.iret (v := 1) hx hb hr (fun t ht hW => ⟨⟨1, (), rfl, by rw [f_likeness, if_pos c_1], by rw [ht]; exact hP9, va_K.moved hW.alike (hK.sub [] rfl), hD9⟩, hS.F ht⟩) hS.2.2 d_Co_likeness_12
def f_exponentIsZero_2 (g : Nat → Int32) (x : Nat → Nat → Int32) (q : Int32) (r_1 : Int32) : Int32 :=
  if r_1 = 0 then 1
  else
    if q = 366 then
      if ((x 3) (q).toNatClampNeg) < (((x 0) (q).toNatClampNeg) + (((x 3) (q).toNatClampNeg) / 2)) then 0
      else 1
    else
      if ((x 3) (q).toNatClampNeg) < (((x 0) (q).toNatClampNeg) + 0) then 0
      else 1
def f_exponentIsZero (g : Nat → Int32) (x : Nat → Nat → Int32) (q : Int32) : Int32 := f_exponentIsZero_2 g x q (f_has q)
set_option maxHeartbeats 4000000 in
set_option maxRecDepth 100000 in
theorem c_exponentIsZero (l : Launch) (D : va_G) (sa : Nat → Nat) (sz : Nat) (qc : Nat) (qg : Nat) (ad : Nat → Nat) (ca : Nat → ClassId) (g : Nat → Int32) (x : Nat → Nat → Int32) (q : Int32)  : Met l y_Co_exponentIsZero w_Co_exponentIsZero ({ frames := 1, cells := 0, slots := 0, locals := 20 }) (va_Pc [.ref qc, .int q] (vq_pre D sa [(qc, k_Co qg ad), (qg, k_Sc g), (ad 0, .inl (ca 0, 367, .inl (x 0))), (ad 1, .inl (ca 1, 367, .inl (x 1))), (ad 2, .inl (ca 2, 367, .inl (x 2))), (ad 3, .inl (ca 3, 367, .inl (x 3)))] [(ca 0, .int), (ca 1, .int), (ca 2, .int), (ca 3, .int)] sz)) (va_Qi (fun (r0 : Int32) (u : Unit) => f_exponentIsZero g x q = r0) (vq_B D (va_A [(qc, k_Co qg ad), (qg, k_Sc g), (ad 0, .inl (ca 0, 367, .inl (x 0))), (ad 1, .inl (ca 1, 367, .inl (x 1))), (ad 2, .inl (ca 2, 367, .inl (x 2))), (ad 3, .inl (ca 3, 367, .inl (x 3)))] sz) [(ca 0, .int), (ca 1, .int), (ca 2, .int), (ca 3, .int)] (fun (u : Unit) => [(qc, k_Co qg ad), (qg, k_Sc g), (ad 0, .inl (ca 0, 367, .inl (x 0))), (ad 1, .inl (ca 1, 367, .inl (x 1))), (ad 2, .inl (ca 2, 367, .inl (x 2))), (ad 3, .inl (ca 3, 367, .inl (x 3)))])) (va_A [(qc, k_Co qg ad), (qg, k_Sc g), (ad 0, .inl (ca 0, 367, .inl (x 0))), (ad 1, .inl (ca 1, 367, .inl (x 1))), (ad 2, .inl (ca 2, 367, .inl (x 2))), (ad 3, .inl (ca 3, 367, .inl (x 3)))] sz)) 0 0 (va_A [(qc, k_Co qg ad), (qg, k_Sc g), (ad 0, .inl (ca 0, 367, .inl (x 0))), (ad 1, .inl (ca 1, 367, .inl (x 1))), (ad 2, .inl (ca 2, 367, .inl (x 2))), (ad 3, .inl (ca 3, 367, .inl (x 3)))] sz) := by
  refine Met.ofW (cc := b_Co_exponentIsZero) (maxL := 4) (ret := (some .boolean)) (by decide) rfl ?_
  intro p e s m args below meth c s₁ B hml hv
  obtain ⟨rfl, hsz, hP, hK, hD0, hE⟩ := hv
  have hx := B.exec
  have hb := B.bytes
  have hr := B.returns
  have hts := atoms_spec (ws := w_Co_exponentIsZero) B.pre
  have hu : ∀ w9 ∈ vU, Cond.before w9 ([.ref qc, .int q]).toArray s = true := fun w9 h => hts w9 (List.mem_cons_of_mem _ h)
  have hown : s.vm.findClass R_Co = some m.cls := findClass_of_methodNamed B.named
  have hlocks := B.notSynchronized
  subst hsz
  have hD := hD0.self (sz := s.heap.size)
  generalize hAe : va_A [(qc, k_Co qg ad), (qg, k_Sc g), (ad 0, .inl (ca 0, 367, .inl (x 0))), (ad 1, .inl (ca 1, 367, .inl (x 1))), (ad 2, .inl (ca 2, 367, .inl (x 2))), (ad 3, .inl (ca 3, 367, .inl (x 3)))] s.heap.size = A at hD ⊢
  have hA : ∀ q : Nat, s.heap.size ≤ q → A q := fun q h => by rw [← hAe]; exact Or.inr h
  have hS : va_S A s.heap s.heap [] := va_S.rf
  have hP : va_P D vwCl [(qc, k_Co qg ad), (qg, k_Sc g), (ad 0, .inl (ca 0, 367, .inl (x 0))), (ad 1, .inl (ca 1, 367, .inl (x 1))), (ad 2, .inl (ca 2, 367, .inl (x 2))), (ad 3, .inl (ca 3, 367, .inl (x 3)))] s.heap := hP
  have hl := lv_entry ([.ref qc, .int q]) (n := 4) (Nat.le_of_ble_eq_true rfl)
  rw [lg_entry_eq]
  generalize (lg_sl ([.ref qc, .int q]) ++ List.replicate (4 - (lg_sl ([.ref qc, .int q])).length) Slot.unset).toArray = ls at hl ⊢
  have hl : lv_has ls 4 [(0, .ref qc), (1, .int q)] := hl
  refine lv_iload_n hx hb d_Co_exponentIsZero_0 rfl (lv_at hl 1 rfl) ?_
  refine vq_i (wr := [(qc, k_Co qg ad), (qg, k_Sc g), (ad 0, .inl (ca 0, 367, .inl (x 0))), (ad 1, .inl (ca 1, 367, .inl (x 1))), (ad 2, .inl (ca 2, 367, .inl (x 2))), (ad 3, .inl (ca 3, 367, .inl (x 3)))]) (va_runS (As := [.int q]) (rest := []) ⟨hx, hb, hml, hown, hts⟩ (c_has l D sa s.heap.size q) (va_cwS 1 hts (vg_S (fun w h => List.mem_cons_of_mem _ h) hw_356 hw_357 hw_36 hw_358) rfl rfl rfl (by decide +kernel) ⟨Nat.le_of_ble_eq_true rfl, Nat.le_of_ble_eq_true rfl⟩) (vq_pS hE hK hP hD [] [] rfl (by decide) rfl) rfl rfl hl.1 rfl (lv_room (Nat.le_of_ble_eq_true rfl)) d_Co_exponentIsZero_1 ⟨Nat.le_of_ble_eq_true rfl, Nat.le_of_ble_eq_true rfl⟩) hP hD hS hA [] [0, 1, 2, 3, 4, 5] rfl rfl (by decide) (by decide) (fun r_1 u_1 H locs e_1 hP hD hS => ?_)
  have hP : va_P D vwCl [(qc, k_Co qg ad), (qg, k_Sc g), (ad 0, .inl (ca 0, 367, .inl (x 0))), (ad 1, .inl (ca 1, 367, .inl (x 1))), (ad 2, .inl (ca 2, 367, .inl (x 2))), (ad 3, .inl (ca 3, 367, .inl (x 3)))] H := hP
  have hD : va_D A [(qc, k_Co qg ad), (qg, k_Sc g), (ad 0, .inl (ca 0, 367, .inl (x 0))), (ad 1, .inl (ca 1, 367, .inl (x 1))), (ad 2, .inl (ca 2, 367, .inl (x 2))), (ad 3, .inl (ca 3, 367, .inl (x 3)))] := hD
  refine lv_if_ne (tgt := 9) hx hb d_Co_exponentIsZero_4 (by decide) (fun c_3 => ?_) (fun c_3 => ?_)
  · refine lv_aload_n hx hb d_Co_exponentIsZero_9 rfl (lv_at hl 0 rfl) ?_
    refine va_get (D := D) (ci := 4) (v := .ref (ad 3)) (C := R_Co) (T := T_Co) (N := 5) hx hb hu in_Co hown hK hP 0 rfl rfl 4 (by decide) (hu _ hw_128) (fun _ h9 => h9) rfl d_Co_exponentIsZero_10 ?_
    refine lv_iload_n hx hb d_Co_exponentIsZero_13 rfl (lv_at hl 1 rfl) ?_
    refine va_iald hx hb hK hP 5 3 rfl rfl (vq_hasr (by assumption) (by assumption)) d_Co_exponentIsZero_14 ?_
    refine lv_istore_n (lv' := [(2, .int ((x 3) (q).toNatClampNeg)), (0, .ref qc), (1, .int q)]) hx hb d_Co_exponentIsZero_15 rfl hl (by decide) rfl (fun ls hl => ?_)
    refine lv_aload_n hx hb d_Co_exponentIsZero_16 rfl (lv_at hl 1 rfl) ?_
    refine va_get (D := D) (ci := 4) (v := .ref (ad 0)) (C := R_Co) (T := T_Co) (N := 5) hx hb hu in_Co hown hK hP 0 rfl rfl 1 (by decide) (hu _ hw_125) (fun _ h9 => h9) rfl d_Co_exponentIsZero_17 ?_
    refine lv_iload_n hx hb d_Co_exponentIsZero_20 rfl (lv_at hl 2 rfl) ?_
    refine va_iald hx hb hK hP 2 0 rfl rfl (vq_hasr (by assumption) (by assumption)) d_Co_exponentIsZero_21 ?_
    refine lv_iload_n hx hb d_Co_exponentIsZero_22 rfl (lv_at hl 2 rfl) ?_
    refine lv_sipush (v := 366) hx hb d_Co_exponentIsZero_23 (by decide) ?_
    refine lv_icmp_ne (tgt := 35) hx hb d_Co_exponentIsZero_26 (by decide) (fun c_4 => ?_) (fun c_4 => ?_)
    · refine lv_iconst (v := 0) hx hb d_Co_exponentIsZero_35 (by decide) ?_
      refine lv_iadd hx hb d_Co_exponentIsZero_36 ?_
      refine lv_istore_n (lv' := [(3, .int (((x 0) (q).toNatClampNeg) + 0)), (2, .int ((x 3) (q).toNatClampNeg)), (0, .ref qc), (1, .int q)]) hx hb d_Co_exponentIsZero_37 rfl hl (by decide) rfl (fun ls hl => ?_)
      refine lv_iload_n hx hb d_Co_exponentIsZero_38 rfl (lv_at hl 1 rfl) ?_
      refine lv_iload_n hx hb d_Co_exponentIsZero_39 rfl (lv_at hl 0 rfl) ?_
      refine lv_icmp_lt (tgt := 47) hx hb d_Co_exponentIsZero_40 (by decide) (fun c_5 => ?_) (fun c_5 => ?_)
      · refine lv_iconst (v := 0) hx hb d_Co_exponentIsZero_47 (by decide) ?_
        have hP9 : va_P D vwCl ([(qc, k_Co qg ad), (qg, k_Sc g), (ad 0, .inl (ca 0, 367, .inl (x 0))), (ad 1, .inl (ca 1, 367, .inl (x 1))), (ad 2, .inl (ca 2, 367, .inl (x 2))), (ad 3, .inl (ca 3, 367, .inl (x 3)))]) H := hP.sub [0, 1, 2, 3, 4, 5] rfl
        have hD9 : va_D A ([(qc, k_Co qg ad), (qg, k_Sc g), (ad 0, .inl (ca 0, 367, .inl (x 0))), (ad 1, .inl (ca 1, 367, .inl (x 1))), (ad 2, .inl (ca 2, 367, .inl (x 2))), (ad 3, .inl (ca 3, 367, .inl (x 3)))]) := hD.sub [0, 1, 2, 3, 4, 5] (by decide) rfl
        exact W.zret (v := 0) hx hb hr rfl (fun t ht hW => ⟨⟨0, (), rfl, by rw [f_exponentIsZero, e_1, f_exponentIsZero_2, if_neg c_3, if_neg c_4, if_pos c_5], by rw [ht]; exact hP9, va_K.moved hW.alike (hK.sub [0, 1, 2, 3] rfl), hD9⟩, hS.F ht⟩) hS.2.2 d_Co_exponentIsZero_48
      · refine lv_iconst (v := 1) hx hb d_Co_exponentIsZero_43 (by decide) ?_
        refine lv_goto (tgt := 48) hx hb d_Co_exponentIsZero_44 (by decide) ?_
        have hP9 : va_P D vwCl ([(qc, k_Co qg ad), (qg, k_Sc g), (ad 0, .inl (ca 0, 367, .inl (x 0))), (ad 1, .inl (ca 1, 367, .inl (x 1))), (ad 2, .inl (ca 2, 367, .inl (x 2))), (ad 3, .inl (ca 3, 367, .inl (x 3)))]) H := hP.sub [0, 1, 2, 3, 4, 5] rfl
        have hD9 : va_D A ([(qc, k_Co qg ad), (qg, k_Sc g), (ad 0, .inl (ca 0, 367, .inl (x 0))), (ad 1, .inl (ca 1, 367, .inl (x 1))), (ad 2, .inl (ca 2, 367, .inl (x 2))), (ad 3, .inl (ca 3, 367, .inl (x 3)))]) := hD.sub [0, 1, 2, 3, 4, 5] (by decide) rfl
        exact W.zret (v := 1) hx hb hr rfl (fun t ht hW => ⟨⟨1, (), rfl, by rw [f_exponentIsZero, e_1, f_exponentIsZero_2, if_neg c_3, if_neg c_4, if_neg c_5], by rw [ht]; exact hP9, va_K.moved hW.alike (hK.sub [0, 1, 2, 3] rfl), hD9⟩, hS.F ht⟩) hS.2.2 d_Co_exponentIsZero_48
    · refine lv_iload_n hx hb d_Co_exponentIsZero_29 rfl (lv_at hl 0 rfl) ?_
      refine lv_iconst (v := 2) hx hb d_Co_exponentIsZero_30 (by decide) ?_
      refine lv_idiv hx hb d_Co_exponentIsZero_31 (by decide) ?_
      refine lv_goto (tgt := 36) hx hb d_Co_exponentIsZero_32 (by decide) ?_
      refine lv_iadd hx hb d_Co_exponentIsZero_36 ?_
      refine lv_istore_n (lv' := [(3, .int (((x 0) (q).toNatClampNeg) + (((x 3) (q).toNatClampNeg) / 2))), (2, .int ((x 3) (q).toNatClampNeg)), (0, .ref qc), (1, .int q)]) hx hb d_Co_exponentIsZero_37 rfl hl (by decide) rfl (fun ls hl => ?_)
      refine lv_iload_n hx hb d_Co_exponentIsZero_38 rfl (lv_at hl 1 rfl) ?_
      refine lv_iload_n hx hb d_Co_exponentIsZero_39 rfl (lv_at hl 0 rfl) ?_
      refine lv_icmp_lt (tgt := 47) hx hb d_Co_exponentIsZero_40 (by decide) (fun c_6 => ?_) (fun c_6 => ?_)
      · refine lv_iconst (v := 0) hx hb d_Co_exponentIsZero_47 (by decide) ?_
        have hP9 : va_P D vwCl ([(qc, k_Co qg ad), (qg, k_Sc g), (ad 0, .inl (ca 0, 367, .inl (x 0))), (ad 1, .inl (ca 1, 367, .inl (x 1))), (ad 2, .inl (ca 2, 367, .inl (x 2))), (ad 3, .inl (ca 3, 367, .inl (x 3)))]) H := hP.sub [0, 1, 2, 3, 4, 5] rfl
        have hD9 : va_D A ([(qc, k_Co qg ad), (qg, k_Sc g), (ad 0, .inl (ca 0, 367, .inl (x 0))), (ad 1, .inl (ca 1, 367, .inl (x 1))), (ad 2, .inl (ca 2, 367, .inl (x 2))), (ad 3, .inl (ca 3, 367, .inl (x 3)))]) := hD.sub [0, 1, 2, 3, 4, 5] (by decide) rfl
        exact W.zret (v := 0) hx hb hr rfl (fun t ht hW => ⟨⟨0, (), rfl, by rw [f_exponentIsZero, e_1, f_exponentIsZero_2, if_neg c_3, if_pos c_4, if_pos c_6], by rw [ht]; exact hP9, va_K.moved hW.alike (hK.sub [0, 1, 2, 3] rfl), hD9⟩, hS.F ht⟩) hS.2.2 d_Co_exponentIsZero_48
      · refine lv_iconst (v := 1) hx hb d_Co_exponentIsZero_43 (by decide) ?_
        refine lv_goto (tgt := 48) hx hb d_Co_exponentIsZero_44 (by decide) ?_
        have hP9 : va_P D vwCl ([(qc, k_Co qg ad), (qg, k_Sc g), (ad 0, .inl (ca 0, 367, .inl (x 0))), (ad 1, .inl (ca 1, 367, .inl (x 1))), (ad 2, .inl (ca 2, 367, .inl (x 2))), (ad 3, .inl (ca 3, 367, .inl (x 3)))]) H := hP.sub [0, 1, 2, 3, 4, 5] rfl
        have hD9 : va_D A ([(qc, k_Co qg ad), (qg, k_Sc g), (ad 0, .inl (ca 0, 367, .inl (x 0))), (ad 1, .inl (ca 1, 367, .inl (x 1))), (ad 2, .inl (ca 2, 367, .inl (x 2))), (ad 3, .inl (ca 3, 367, .inl (x 3)))]) := hD.sub [0, 1, 2, 3, 4, 5] (by decide) rfl
        exact W.zret (v := 1) hx hb hr rfl (fun t ht hW => ⟨⟨1, (), rfl, by rw [f_exponentIsZero, e_1, f_exponentIsZero_2, if_neg c_3, if_pos c_4, if_neg c_6], by rw [ht]; exact hP9, va_K.moved hW.alike (hK.sub [0, 1, 2, 3] rfl), hD9⟩, hS.F ht⟩) hS.2.2 d_Co_exponentIsZero_48
  · refine lv_iconst (v := 1) hx hb d_Co_exponentIsZero_7 (by decide) ?_
    have hP9 : va_P D vwCl ([(qc, k_Co qg ad), (qg, k_Sc g), (ad 0, .inl (ca 0, 367, .inl (x 0))), (ad 1, .inl (ca 1, 367, .inl (x 1))), (ad 2, .inl (ca 2, 367, .inl (x 2))), (ad 3, .inl (ca 3, 367, .inl (x 3)))]) H := hP.sub [0, 1, 2, 3, 4, 5] rfl
    have hD9 : va_D A ([(qc, k_Co qg ad), (qg, k_Sc g), (ad 0, .inl (ca 0, 367, .inl (x 0))), (ad 1, .inl (ca 1, 367, .inl (x 1))), (ad 2, .inl (ca 2, 367, .inl (x 2))), (ad 3, .inl (ca 3, 367, .inl (x 3)))]) := hD.sub [0, 1, 2, 3, 4, 5] (by decide) rfl
    exact W.zret (v := 1) hx hb hr rfl (fun t ht hW => ⟨⟨1, (), rfl, by rw [f_exponentIsZero, e_1, f_exponentIsZero_2, if_pos c_3], by rw [ht]; exact hP9, va_K.moved hW.alike (hK.sub [0, 1, 2, 3] rfl), hD9⟩, hS.F ht⟩) hS.2.2 d_Co_exponentIsZero_8
def f_leansBelow_7 (g : Nat → Int32) (x : Nat → Nat → Int32) (q : Int32) (r_1 : Int32) (r_6 : Int32) : Int32 :=
  if r_6 = 0 then 0
  else 1
def f_leansBelow_2 (g : Nat → Int32) (x : Nat → Nat → Int32) (q : Int32) (r_1 : Int32) : Int32 :=
  if r_1 = 0 then 0
  else
    if (g 1) = 0 then
      if (-((x 3) (q).toNatClampNeg)) < (2 * ((x 1) (q).toNatClampNeg)) then 0
      else f_leansBelow_7 g x q r_1 (f_exponentIsZero g x q)
    else 0
def f_leansBelow (g : Nat → Int32) (x : Nat → Nat → Int32) (q : Int32) : Int32 := f_leansBelow_2 g x q (f_has q)
set_option maxHeartbeats 4000000 in
set_option maxRecDepth 100000 in
theorem c_leansBelow (l : Launch) (D : va_G) (sa : Nat → Nat) (sz : Nat) (qc : Nat) (qg : Nat) (ad : Nat → Nat) (ca : Nat → ClassId) (g : Nat → Int32) (x : Nat → Nat → Int32) (q : Int32)  : Met l y_Co_leansBelow w_Co_leansBelow ({ frames := 2, cells := 0, slots := 0, locals := 43 }) (va_Pc [.ref qc, .int q] (vq_pre D sa [(qc, k_Co qg ad), (qg, k_Sc g), (ad 0, .inl (ca 0, 367, .inl (x 0))), (ad 1, .inl (ca 1, 367, .inl (x 1))), (ad 2, .inl (ca 2, 367, .inl (x 2))), (ad 3, .inl (ca 3, 367, .inl (x 3)))] [(ca 0, .int), (ca 1, .int), (ca 2, .int), (ca 3, .int)] sz)) (va_Qi (fun (r0 : Int32) (u : Unit) => f_leansBelow g x q = r0) (vq_B D (va_A [(qc, k_Co qg ad), (qg, k_Sc g), (ad 0, .inl (ca 0, 367, .inl (x 0))), (ad 1, .inl (ca 1, 367, .inl (x 1))), (ad 2, .inl (ca 2, 367, .inl (x 2))), (ad 3, .inl (ca 3, 367, .inl (x 3)))] sz) [(ca 0, .int), (ca 1, .int), (ca 2, .int), (ca 3, .int)] (fun (u : Unit) => [(qc, k_Co qg ad), (qg, k_Sc g), (ad 0, .inl (ca 0, 367, .inl (x 0))), (ad 1, .inl (ca 1, 367, .inl (x 1))), (ad 2, .inl (ca 2, 367, .inl (x 2))), (ad 3, .inl (ca 3, 367, .inl (x 3)))])) (va_A [(qc, k_Co qg ad), (qg, k_Sc g), (ad 0, .inl (ca 0, 367, .inl (x 0))), (ad 1, .inl (ca 1, 367, .inl (x 1))), (ad 2, .inl (ca 2, 367, .inl (x 2))), (ad 3, .inl (ca 3, 367, .inl (x 3)))] sz)) 0 0 (va_A [(qc, k_Co qg ad), (qg, k_Sc g), (ad 0, .inl (ca 0, 367, .inl (x 0))), (ad 1, .inl (ca 1, 367, .inl (x 1))), (ad 2, .inl (ca 2, 367, .inl (x 2))), (ad 3, .inl (ca 3, 367, .inl (x 3)))] sz) := by
  refine Met.ofW (cc := b_Co_leansBelow) (maxL := 2) (ret := (some .boolean)) (by decide) rfl ?_
  intro p e s m args below meth c s₁ B hml hv
  obtain ⟨rfl, hsz, hP, hK, hD0, hE⟩ := hv
  have hx := B.exec
  have hb := B.bytes
  have hr := B.returns
  have hts := atoms_spec (ws := w_Co_leansBelow) B.pre
  have hu : ∀ w9 ∈ vU, Cond.before w9 ([.ref qc, .int q]).toArray s = true := fun w9 h => hts w9 (List.mem_cons_of_mem _ h)
  have hown : s.vm.findClass R_Co = some m.cls := findClass_of_methodNamed B.named
  have hlocks := B.notSynchronized
  subst hsz
  have hD := hD0.self (sz := s.heap.size)
  generalize hAe : va_A [(qc, k_Co qg ad), (qg, k_Sc g), (ad 0, .inl (ca 0, 367, .inl (x 0))), (ad 1, .inl (ca 1, 367, .inl (x 1))), (ad 2, .inl (ca 2, 367, .inl (x 2))), (ad 3, .inl (ca 3, 367, .inl (x 3)))] s.heap.size = A at hD ⊢
  have hA : ∀ q : Nat, s.heap.size ≤ q → A q := fun q h => by rw [← hAe]; exact Or.inr h
  have hS : va_S A s.heap s.heap [] := va_S.rf
  have hP : va_P D vwCl [(qc, k_Co qg ad), (qg, k_Sc g), (ad 0, .inl (ca 0, 367, .inl (x 0))), (ad 1, .inl (ca 1, 367, .inl (x 1))), (ad 2, .inl (ca 2, 367, .inl (x 2))), (ad 3, .inl (ca 3, 367, .inl (x 3)))] s.heap := hP
  have hl := lv_entry ([.ref qc, .int q]) (n := 2) (Nat.le_of_ble_eq_true rfl)
  rw [lg_entry_eq]
  generalize (lg_sl ([.ref qc, .int q]) ++ List.replicate (2 - (lg_sl ([.ref qc, .int q])).length) Slot.unset).toArray = ls at hl ⊢
  have hl : lv_has ls 2 [(0, .ref qc), (1, .int q)] := hl
  refine lv_iload_n hx hb d_Co_leansBelow_0 rfl (lv_at hl 1 rfl) ?_
  refine vq_i (wr := [(qc, k_Co qg ad), (qg, k_Sc g), (ad 0, .inl (ca 0, 367, .inl (x 0))), (ad 1, .inl (ca 1, 367, .inl (x 1))), (ad 2, .inl (ca 2, 367, .inl (x 2))), (ad 3, .inl (ca 3, 367, .inl (x 3)))]) (va_runS (As := [.int q]) (rest := []) ⟨hx, hb, hml, hown, hts⟩ (c_has l D sa s.heap.size q) (va_cwS 1 hts (vg_S (fun w h => List.mem_cons_of_mem _ h) hw_356 hw_357 hw_36 hw_358) rfl rfl rfl (by decide +kernel) ⟨Nat.le_of_ble_eq_true rfl, Nat.le_of_ble_eq_true rfl⟩) (vq_pS hE hK hP hD [] [] rfl (by decide) rfl) rfl rfl hl.1 rfl (lv_room (Nat.le_of_ble_eq_true rfl)) d_Co_leansBelow_1 ⟨Nat.le_of_ble_eq_true rfl, Nat.le_of_ble_eq_true rfl⟩) hP hD hS hA [] [0, 1, 2, 3, 4, 5] rfl rfl (by decide) (by decide) (fun r_1 u_1 H locs e_1 hP hD hS => ?_)
  have hP : va_P D vwCl [(qc, k_Co qg ad), (qg, k_Sc g), (ad 0, .inl (ca 0, 367, .inl (x 0))), (ad 1, .inl (ca 1, 367, .inl (x 1))), (ad 2, .inl (ca 2, 367, .inl (x 2))), (ad 3, .inl (ca 3, 367, .inl (x 3)))] H := hP
  have hD : va_D A [(qc, k_Co qg ad), (qg, k_Sc g), (ad 0, .inl (ca 0, 367, .inl (x 0))), (ad 1, .inl (ca 1, 367, .inl (x 1))), (ad 2, .inl (ca 2, 367, .inl (x 2))), (ad 3, .inl (ca 3, 367, .inl (x 3)))] := hD
  refine lv_if_eq (tgt := 47) hx hb d_Co_leansBelow_4 (by decide) (fun c_3 => ?_) (fun c_3 => ?_)
  · refine lv_iconst (v := 0) hx hb d_Co_leansBelow_47 (by decide) ?_
    have hP9 : va_P D vwCl ([(qc, k_Co qg ad), (qg, k_Sc g), (ad 0, .inl (ca 0, 367, .inl (x 0))), (ad 1, .inl (ca 1, 367, .inl (x 1))), (ad 2, .inl (ca 2, 367, .inl (x 2))), (ad 3, .inl (ca 3, 367, .inl (x 3)))]) H := hP.sub [0, 1, 2, 3, 4, 5] rfl
    have hD9 : va_D A ([(qc, k_Co qg ad), (qg, k_Sc g), (ad 0, .inl (ca 0, 367, .inl (x 0))), (ad 1, .inl (ca 1, 367, .inl (x 1))), (ad 2, .inl (ca 2, 367, .inl (x 2))), (ad 3, .inl (ca 3, 367, .inl (x 3)))]) := hD.sub [0, 1, 2, 3, 4, 5] (by decide) rfl
    exact W.zret (v := 0) hx hb hr rfl (fun t ht hW => ⟨⟨0, (), rfl, by rw [f_leansBelow, e_1, f_leansBelow_2, if_pos c_3], by rw [ht]; exact hP9, va_K.moved hW.alike (hK.sub [0, 1, 2, 3] rfl), hD9⟩, hS.F ht⟩) hS.2.2 d_Co_leansBelow_48
  · refine lv_aload_n hx hb d_Co_leansBelow_7 rfl (lv_at hl 0 rfl) ?_
    refine va_get (D := D) (ci := 4) (v := .ref qg) (C := R_Co) (T := T_Co) (N := 5) hx hb hu in_Co hown hK hP 0 rfl rfl 0 (by decide) (hu _ hw_124) (fun _ h9 => h9) rfl d_Co_leansBelow_8 ?_
    refine va_get (D := D) (ci := 1) (v := .int (g 1)) (C := R_Sc) (T := T_Sc) (N := 8) hx hb hu in_Sc hown hK hP 1 rfl rfl 1 (by decide) (hu _ hw_84) (fun _ h9 => h9) rfl d_Co_leansBelow_11 ?_
    refine lv_if_ne (tgt := 47) hx hb d_Co_leansBelow_14 (by decide) (fun c_4 => ?_) (fun c_4 => ?_)
    · refine lv_iconst (v := 0) hx hb d_Co_leansBelow_47 (by decide) ?_
      have hP9 : va_P D vwCl ([(qc, k_Co qg ad), (qg, k_Sc g), (ad 0, .inl (ca 0, 367, .inl (x 0))), (ad 1, .inl (ca 1, 367, .inl (x 1))), (ad 2, .inl (ca 2, 367, .inl (x 2))), (ad 3, .inl (ca 3, 367, .inl (x 3)))]) H := hP.sub [0, 1, 2, 3, 4, 5] rfl
      have hD9 : va_D A ([(qc, k_Co qg ad), (qg, k_Sc g), (ad 0, .inl (ca 0, 367, .inl (x 0))), (ad 1, .inl (ca 1, 367, .inl (x 1))), (ad 2, .inl (ca 2, 367, .inl (x 2))), (ad 3, .inl (ca 3, 367, .inl (x 3)))]) := hD.sub [0, 1, 2, 3, 4, 5] (by decide) rfl
      exact W.zret (v := 0) hx hb hr rfl (fun t ht hW => ⟨⟨0, (), rfl, by rw [f_leansBelow, e_1, f_leansBelow_2, if_neg c_3, if_neg c_4], by rw [ht]; exact hP9, va_K.moved hW.alike (hK.sub [0, 1, 2, 3] rfl), hD9⟩, hS.F ht⟩) hS.2.2 d_Co_leansBelow_48
    · refine lv_iconst (v := 2) hx hb d_Co_leansBelow_17 (by decide) ?_
      refine lv_aload_n hx hb d_Co_leansBelow_18 rfl (lv_at hl 0 rfl) ?_
      refine va_get (D := D) (ci := 4) (v := .ref (ad 1)) (C := R_Co) (T := T_Co) (N := 5) hx hb hu in_Co hown hK hP 0 rfl rfl 2 (by decide) (hu _ hw_126) (fun _ h9 => h9) rfl d_Co_leansBelow_19 ?_
      refine lv_iload_n hx hb d_Co_leansBelow_22 rfl (lv_at hl 1 rfl) ?_
      refine va_iald hx hb hK hP 3 1 rfl rfl (vq_hasr (by assumption) (by assumption)) d_Co_leansBelow_23 ?_
      refine lv_imul hx hb d_Co_leansBelow_24 ?_
      refine lv_aload_n hx hb d_Co_leansBelow_25 rfl (lv_at hl 0 rfl) ?_
      refine va_get (D := D) (ci := 4) (v := .ref (ad 3)) (C := R_Co) (T := T_Co) (N := 5) hx hb hu in_Co hown hK hP 0 rfl rfl 4 (by decide) (hu _ hw_128) (fun _ h9 => h9) rfl d_Co_leansBelow_26 ?_
      refine lv_iload_n hx hb d_Co_leansBelow_29 rfl (lv_at hl 1 rfl) ?_
      refine va_iald hx hb hK hP 5 3 rfl rfl (vq_hasr (by assumption) (by assumption)) d_Co_leansBelow_30 ?_
      refine lv_ineg hx hb d_Co_leansBelow_31 ?_
      refine lv_icmp_gt (tgt := 47) hx hb d_Co_leansBelow_32 (by decide) (fun c_5 => ?_) (fun c_5 => ?_)
      · refine lv_iconst (v := 0) hx hb d_Co_leansBelow_47 (by decide) ?_
        have hP9 : va_P D vwCl ([(qc, k_Co qg ad), (qg, k_Sc g), (ad 0, .inl (ca 0, 367, .inl (x 0))), (ad 1, .inl (ca 1, 367, .inl (x 1))), (ad 2, .inl (ca 2, 367, .inl (x 2))), (ad 3, .inl (ca 3, 367, .inl (x 3)))]) H := hP.sub [0, 1, 2, 3, 4, 5] rfl
        have hD9 : va_D A ([(qc, k_Co qg ad), (qg, k_Sc g), (ad 0, .inl (ca 0, 367, .inl (x 0))), (ad 1, .inl (ca 1, 367, .inl (x 1))), (ad 2, .inl (ca 2, 367, .inl (x 2))), (ad 3, .inl (ca 3, 367, .inl (x 3)))]) := hD.sub [0, 1, 2, 3, 4, 5] (by decide) rfl
        exact W.zret (v := 0) hx hb hr rfl (fun t ht hW => ⟨⟨0, (), rfl, by rw [f_leansBelow, e_1, f_leansBelow_2, if_neg c_3, if_pos c_4, if_pos c_5], by rw [ht]; exact hP9, va_K.moved hW.alike (hK.sub [0, 1, 2, 3] rfl), hD9⟩, hS.F ht⟩) hS.2.2 d_Co_leansBelow_48
      · refine lv_aload_n hx hb d_Co_leansBelow_35 rfl (lv_at hl 0 rfl) ?_
        refine lv_iload_n hx hb d_Co_leansBelow_36 rfl (lv_at hl 1 rfl) ?_
        refine vq_i (wr := []) (va_runV (As := [.int q]) (rest := []) ⟨hx, hb, hml, hown, hts⟩ (c_exponentIsZero l D sa H.size qc qg ad ca g x q) (cwV 1 hts (vg_V (fun w h => List.mem_cons_of_mem _ h) hw_399 hw_400 hw_9 hw_36 hw_401) rfl rfl rfl (by decide +kernel) ⟨Nat.le_of_ble_eq_true rfl, Nat.le_of_ble_eq_true rfl⟩) (vq_pV hE hK hP hD [0, 1, 2, 3, 4, 5] [0, 1, 2, 3] rfl (by decide) rfl 4 0 rfl rfl rfl) rfl rfl hl.1 rfl (lv_room (Nat.le_of_ble_eq_true rfl)) d_Co_leansBelow_37 ⟨Nat.le_of_ble_eq_true rfl, Nat.le_of_ble_eq_true rfl⟩) hP hD hS hA [0, 1, 2, 3, 4, 5] [] rfl rfl (by decide) (by decide) (fun r_6 u_6 H locs e_6 hP hD hS => ?_)
        have hP : va_P D vwCl [(qc, k_Co qg ad), (qg, k_Sc g), (ad 0, .inl (ca 0, 367, .inl (x 0))), (ad 1, .inl (ca 1, 367, .inl (x 1))), (ad 2, .inl (ca 2, 367, .inl (x 2))), (ad 3, .inl (ca 3, 367, .inl (x 3)))] H := hP
        have hD : va_D A [(qc, k_Co qg ad), (qg, k_Sc g), (ad 0, .inl (ca 0, 367, .inl (x 0))), (ad 1, .inl (ca 1, 367, .inl (x 1))), (ad 2, .inl (ca 2, 367, .inl (x 2))), (ad 3, .inl (ca 3, 367, .inl (x 3)))] := hD
        refine lv_if_eq (tgt := 47) hx hb d_Co_leansBelow_40 (by decide) (fun c_8 => ?_) (fun c_8 => ?_)
        · refine lv_iconst (v := 0) hx hb d_Co_leansBelow_47 (by decide) ?_
          have hP9 : va_P D vwCl ([(qc, k_Co qg ad), (qg, k_Sc g), (ad 0, .inl (ca 0, 367, .inl (x 0))), (ad 1, .inl (ca 1, 367, .inl (x 1))), (ad 2, .inl (ca 2, 367, .inl (x 2))), (ad 3, .inl (ca 3, 367, .inl (x 3)))]) H := hP.sub [0, 1, 2, 3, 4, 5] rfl
          have hD9 : va_D A ([(qc, k_Co qg ad), (qg, k_Sc g), (ad 0, .inl (ca 0, 367, .inl (x 0))), (ad 1, .inl (ca 1, 367, .inl (x 1))), (ad 2, .inl (ca 2, 367, .inl (x 2))), (ad 3, .inl (ca 3, 367, .inl (x 3)))]) := hD.sub [0, 1, 2, 3, 4, 5] (by decide) rfl
          exact W.zret (v := 0) hx hb hr rfl (fun t ht hW => ⟨⟨0, (), rfl, by rw [f_leansBelow, e_1, f_leansBelow_2, if_neg c_3, if_pos c_4, if_neg c_5, e_6, f_leansBelow_7, if_pos c_8], by rw [ht]; exact hP9, va_K.moved hW.alike (hK.sub [0, 1, 2, 3] rfl), hD9⟩, hS.F ht⟩) hS.2.2 d_Co_leansBelow_48
        · refine lv_iconst (v := 1) hx hb d_Co_leansBelow_43 (by decide) ?_
          refine lv_goto (tgt := 48) hx hb d_Co_leansBelow_44 (by decide) ?_
          have hP9 : va_P D vwCl ([(qc, k_Co qg ad), (qg, k_Sc g), (ad 0, .inl (ca 0, 367, .inl (x 0))), (ad 1, .inl (ca 1, 367, .inl (x 1))), (ad 2, .inl (ca 2, 367, .inl (x 2))), (ad 3, .inl (ca 3, 367, .inl (x 3)))]) H := hP.sub [0, 1, 2, 3, 4, 5] rfl
          have hD9 : va_D A ([(qc, k_Co qg ad), (qg, k_Sc g), (ad 0, .inl (ca 0, 367, .inl (x 0))), (ad 1, .inl (ca 1, 367, .inl (x 1))), (ad 2, .inl (ca 2, 367, .inl (x 2))), (ad 3, .inl (ca 3, 367, .inl (x 3)))]) := hD.sub [0, 1, 2, 3, 4, 5] (by decide) rfl
          exact W.zret (v := 1) hx hb hr rfl (fun t ht hW => ⟨⟨1, (), rfl, by rw [f_leansBelow, e_1, f_leansBelow_2, if_neg c_3, if_pos c_4, if_neg c_5, e_6, f_leansBelow_7, if_neg c_8], by rw [ht]; exact hP9, va_K.moved hW.alike (hK.sub [0, 1, 2, 3] rfl), hD9⟩, hS.F ht⟩) hS.2.2 d_Co_leansBelow_48
def f_turnsAbove_6 (g : Nat → Int32) (x : Nat → Nat → Int32) (q : Int32) (r_1 : Int32) (r_5 : Int32) : Int32 :=
  if r_5 = 0 then 0
  else 1
def f_turnsAbove_2 (g : Nat → Int32) (x : Nat → Nat → Int32) (q : Int32) (r_1 : Int32) : Int32 :=
  if r_1 = 0 then 0
  else
    if ((x 3) (q).toNatClampNeg) ≤ (2 * ((x 1) (q).toNatClampNeg)) then 0
    else f_turnsAbove_6 g x q r_1 (f_exponentIsZero g x q)
def f_turnsAbove (g : Nat → Int32) (x : Nat → Nat → Int32) (q : Int32) : Int32 := f_turnsAbove_2 g x q (f_has q)
set_option maxHeartbeats 4000000 in
set_option maxRecDepth 100000 in
theorem c_turnsAbove (l : Launch) (D : va_G) (sa : Nat → Nat) (sz : Nat) (qc : Nat) (qg : Nat) (ad : Nat → Nat) (ca : Nat → ClassId) (g : Nat → Int32) (x : Nat → Nat → Int32) (q : Int32)  : Met l y_Co_turnsAbove w_Co_turnsAbove ({ frames := 2, cells := 0, slots := 0, locals := 43 }) (va_Pc [.ref qc, .int q] (vq_pre D sa [(qc, k_Co qg ad), (qg, k_Sc g), (ad 0, .inl (ca 0, 367, .inl (x 0))), (ad 1, .inl (ca 1, 367, .inl (x 1))), (ad 2, .inl (ca 2, 367, .inl (x 2))), (ad 3, .inl (ca 3, 367, .inl (x 3)))] [(ca 0, .int), (ca 1, .int), (ca 2, .int), (ca 3, .int)] sz)) (va_Qi (fun (r0 : Int32) (u : Unit) => f_turnsAbove g x q = r0) (vq_B D (va_A [(qc, k_Co qg ad), (qg, k_Sc g), (ad 0, .inl (ca 0, 367, .inl (x 0))), (ad 1, .inl (ca 1, 367, .inl (x 1))), (ad 2, .inl (ca 2, 367, .inl (x 2))), (ad 3, .inl (ca 3, 367, .inl (x 3)))] sz) [(ca 0, .int), (ca 1, .int), (ca 2, .int), (ca 3, .int)] (fun (u : Unit) => [(qc, k_Co qg ad), (qg, k_Sc g), (ad 0, .inl (ca 0, 367, .inl (x 0))), (ad 1, .inl (ca 1, 367, .inl (x 1))), (ad 2, .inl (ca 2, 367, .inl (x 2))), (ad 3, .inl (ca 3, 367, .inl (x 3)))])) (va_A [(qc, k_Co qg ad), (qg, k_Sc g), (ad 0, .inl (ca 0, 367, .inl (x 0))), (ad 1, .inl (ca 1, 367, .inl (x 1))), (ad 2, .inl (ca 2, 367, .inl (x 2))), (ad 3, .inl (ca 3, 367, .inl (x 3)))] sz)) 0 0 (va_A [(qc, k_Co qg ad), (qg, k_Sc g), (ad 0, .inl (ca 0, 367, .inl (x 0))), (ad 1, .inl (ca 1, 367, .inl (x 1))), (ad 2, .inl (ca 2, 367, .inl (x 2))), (ad 3, .inl (ca 3, 367, .inl (x 3)))] sz) := by
  refine Met.ofW (cc := b_Co_turnsAbove) (maxL := 2) (ret := (some .boolean)) (by decide) rfl ?_
  intro p e s m args below meth c s₁ B hml hv
  obtain ⟨rfl, hsz, hP, hK, hD0, hE⟩ := hv
  have hx := B.exec
  have hb := B.bytes
  have hr := B.returns
  have hts := atoms_spec (ws := w_Co_turnsAbove) B.pre
  have hu : ∀ w9 ∈ vU, Cond.before w9 ([.ref qc, .int q]).toArray s = true := fun w9 h => hts w9 (List.mem_cons_of_mem _ h)
  have hown : s.vm.findClass R_Co = some m.cls := findClass_of_methodNamed B.named
  have hlocks := B.notSynchronized
  subst hsz
  have hD := hD0.self (sz := s.heap.size)
  generalize hAe : va_A [(qc, k_Co qg ad), (qg, k_Sc g), (ad 0, .inl (ca 0, 367, .inl (x 0))), (ad 1, .inl (ca 1, 367, .inl (x 1))), (ad 2, .inl (ca 2, 367, .inl (x 2))), (ad 3, .inl (ca 3, 367, .inl (x 3)))] s.heap.size = A at hD ⊢
  have hA : ∀ q : Nat, s.heap.size ≤ q → A q := fun q h => by rw [← hAe]; exact Or.inr h
  have hS : va_S A s.heap s.heap [] := va_S.rf
  have hP : va_P D vwCl [(qc, k_Co qg ad), (qg, k_Sc g), (ad 0, .inl (ca 0, 367, .inl (x 0))), (ad 1, .inl (ca 1, 367, .inl (x 1))), (ad 2, .inl (ca 2, 367, .inl (x 2))), (ad 3, .inl (ca 3, 367, .inl (x 3)))] s.heap := hP
  have hl := lv_entry ([.ref qc, .int q]) (n := 2) (Nat.le_of_ble_eq_true rfl)
  rw [lg_entry_eq]
  generalize (lg_sl ([.ref qc, .int q]) ++ List.replicate (2 - (lg_sl ([.ref qc, .int q])).length) Slot.unset).toArray = ls at hl ⊢
  have hl : lv_has ls 2 [(0, .ref qc), (1, .int q)] := hl
  refine lv_iload_n hx hb d_Co_turnsAbove_0 rfl (lv_at hl 1 rfl) ?_
  refine vq_i (wr := [(qc, k_Co qg ad), (qg, k_Sc g), (ad 0, .inl (ca 0, 367, .inl (x 0))), (ad 1, .inl (ca 1, 367, .inl (x 1))), (ad 2, .inl (ca 2, 367, .inl (x 2))), (ad 3, .inl (ca 3, 367, .inl (x 3)))]) (va_runS (As := [.int q]) (rest := []) ⟨hx, hb, hml, hown, hts⟩ (c_has l D sa s.heap.size q) (va_cwS 1 hts (vg_S (fun w h => List.mem_cons_of_mem _ h) hw_356 hw_357 hw_36 hw_358) rfl rfl rfl (by decide +kernel) ⟨Nat.le_of_ble_eq_true rfl, Nat.le_of_ble_eq_true rfl⟩) (vq_pS hE hK hP hD [] [] rfl (by decide) rfl) rfl rfl hl.1 rfl (lv_room (Nat.le_of_ble_eq_true rfl)) d_Co_turnsAbove_1 ⟨Nat.le_of_ble_eq_true rfl, Nat.le_of_ble_eq_true rfl⟩) hP hD hS hA [] [0, 1, 2, 3, 4, 5] rfl rfl (by decide) (by decide) (fun r_1 u_1 H locs e_1 hP hD hS => ?_)
  have hP : va_P D vwCl [(qc, k_Co qg ad), (qg, k_Sc g), (ad 0, .inl (ca 0, 367, .inl (x 0))), (ad 1, .inl (ca 1, 367, .inl (x 1))), (ad 2, .inl (ca 2, 367, .inl (x 2))), (ad 3, .inl (ca 3, 367, .inl (x 3)))] H := hP
  have hD : va_D A [(qc, k_Co qg ad), (qg, k_Sc g), (ad 0, .inl (ca 0, 367, .inl (x 0))), (ad 1, .inl (ca 1, 367, .inl (x 1))), (ad 2, .inl (ca 2, 367, .inl (x 2))), (ad 3, .inl (ca 3, 367, .inl (x 3)))] := hD
  refine lv_if_eq (tgt := 36) hx hb d_Co_turnsAbove_4 (by decide) (fun c_3 => ?_) (fun c_3 => ?_)
  · refine lv_iconst (v := 0) hx hb d_Co_turnsAbove_36 (by decide) ?_
    have hP9 : va_P D vwCl ([(qc, k_Co qg ad), (qg, k_Sc g), (ad 0, .inl (ca 0, 367, .inl (x 0))), (ad 1, .inl (ca 1, 367, .inl (x 1))), (ad 2, .inl (ca 2, 367, .inl (x 2))), (ad 3, .inl (ca 3, 367, .inl (x 3)))]) H := hP.sub [0, 1, 2, 3, 4, 5] rfl
    have hD9 : va_D A ([(qc, k_Co qg ad), (qg, k_Sc g), (ad 0, .inl (ca 0, 367, .inl (x 0))), (ad 1, .inl (ca 1, 367, .inl (x 1))), (ad 2, .inl (ca 2, 367, .inl (x 2))), (ad 3, .inl (ca 3, 367, .inl (x 3)))]) := hD.sub [0, 1, 2, 3, 4, 5] (by decide) rfl
    exact W.zret (v := 0) hx hb hr rfl (fun t ht hW => ⟨⟨0, (), rfl, by rw [f_turnsAbove, e_1, f_turnsAbove_2, if_pos c_3], by rw [ht]; exact hP9, va_K.moved hW.alike (hK.sub [0, 1, 2, 3] rfl), hD9⟩, hS.F ht⟩) hS.2.2 d_Co_turnsAbove_37
  · refine lv_iconst (v := 2) hx hb d_Co_turnsAbove_7 (by decide) ?_
    refine lv_aload_n hx hb d_Co_turnsAbove_8 rfl (lv_at hl 0 rfl) ?_
    refine va_get (D := D) (ci := 4) (v := .ref (ad 1)) (C := R_Co) (T := T_Co) (N := 5) hx hb hu in_Co hown hK hP 0 rfl rfl 2 (by decide) (hu _ hw_126) (fun _ h9 => h9) rfl d_Co_turnsAbove_9 ?_
    refine lv_iload_n hx hb d_Co_turnsAbove_12 rfl (lv_at hl 1 rfl) ?_
    refine va_iald hx hb hK hP 3 1 rfl rfl (vq_hasr (by assumption) (by assumption)) d_Co_turnsAbove_13 ?_
    refine lv_imul hx hb d_Co_turnsAbove_14 ?_
    refine lv_aload_n hx hb d_Co_turnsAbove_15 rfl (lv_at hl 0 rfl) ?_
    refine va_get (D := D) (ci := 4) (v := .ref (ad 3)) (C := R_Co) (T := T_Co) (N := 5) hx hb hu in_Co hown hK hP 0 rfl rfl 4 (by decide) (hu _ hw_128) (fun _ h9 => h9) rfl d_Co_turnsAbove_16 ?_
    refine lv_iload_n hx hb d_Co_turnsAbove_19 rfl (lv_at hl 1 rfl) ?_
    refine va_iald hx hb hK hP 5 3 rfl rfl (vq_hasr (by assumption) (by assumption)) d_Co_turnsAbove_20 ?_
    refine lv_icmp_ge (tgt := 36) hx hb d_Co_turnsAbove_21 (by decide) (fun c_4 => ?_) (fun c_4 => ?_)
    · refine lv_iconst (v := 0) hx hb d_Co_turnsAbove_36 (by decide) ?_
      have hP9 : va_P D vwCl ([(qc, k_Co qg ad), (qg, k_Sc g), (ad 0, .inl (ca 0, 367, .inl (x 0))), (ad 1, .inl (ca 1, 367, .inl (x 1))), (ad 2, .inl (ca 2, 367, .inl (x 2))), (ad 3, .inl (ca 3, 367, .inl (x 3)))]) H := hP.sub [0, 1, 2, 3, 4, 5] rfl
      have hD9 : va_D A ([(qc, k_Co qg ad), (qg, k_Sc g), (ad 0, .inl (ca 0, 367, .inl (x 0))), (ad 1, .inl (ca 1, 367, .inl (x 1))), (ad 2, .inl (ca 2, 367, .inl (x 2))), (ad 3, .inl (ca 3, 367, .inl (x 3)))]) := hD.sub [0, 1, 2, 3, 4, 5] (by decide) rfl
      exact W.zret (v := 0) hx hb hr rfl (fun t ht hW => ⟨⟨0, (), rfl, by rw [f_turnsAbove, e_1, f_turnsAbove_2, if_neg c_3, if_pos c_4], by rw [ht]; exact hP9, va_K.moved hW.alike (hK.sub [0, 1, 2, 3] rfl), hD9⟩, hS.F ht⟩) hS.2.2 d_Co_turnsAbove_37
    · refine lv_aload_n hx hb d_Co_turnsAbove_24 rfl (lv_at hl 0 rfl) ?_
      refine lv_iload_n hx hb d_Co_turnsAbove_25 rfl (lv_at hl 1 rfl) ?_
      refine vq_i (wr := []) (va_runV (As := [.int q]) (rest := []) ⟨hx, hb, hml, hown, hts⟩ (c_exponentIsZero l D sa H.size qc qg ad ca g x q) (cwV 1 hts (vg_V (fun w h => List.mem_cons_of_mem _ h) hw_399 hw_400 hw_9 hw_36 hw_401) rfl rfl rfl (by decide +kernel) ⟨Nat.le_of_ble_eq_true rfl, Nat.le_of_ble_eq_true rfl⟩) (vq_pV hE hK hP hD [0, 1, 2, 3, 4, 5] [0, 1, 2, 3] rfl (by decide) rfl 4 0 rfl rfl rfl) rfl rfl hl.1 rfl (lv_room (Nat.le_of_ble_eq_true rfl)) d_Co_turnsAbove_26 ⟨Nat.le_of_ble_eq_true rfl, Nat.le_of_ble_eq_true rfl⟩) hP hD hS hA [0, 1, 2, 3, 4, 5] [] rfl rfl (by decide) (by decide) (fun r_5 u_5 H locs e_5 hP hD hS => ?_)
      have hP : va_P D vwCl [(qc, k_Co qg ad), (qg, k_Sc g), (ad 0, .inl (ca 0, 367, .inl (x 0))), (ad 1, .inl (ca 1, 367, .inl (x 1))), (ad 2, .inl (ca 2, 367, .inl (x 2))), (ad 3, .inl (ca 3, 367, .inl (x 3)))] H := hP
      have hD : va_D A [(qc, k_Co qg ad), (qg, k_Sc g), (ad 0, .inl (ca 0, 367, .inl (x 0))), (ad 1, .inl (ca 1, 367, .inl (x 1))), (ad 2, .inl (ca 2, 367, .inl (x 2))), (ad 3, .inl (ca 3, 367, .inl (x 3)))] := hD
      refine lv_if_eq (tgt := 36) hx hb d_Co_turnsAbove_29 (by decide) (fun c_7 => ?_) (fun c_7 => ?_)
      · refine lv_iconst (v := 0) hx hb d_Co_turnsAbove_36 (by decide) ?_
        have hP9 : va_P D vwCl ([(qc, k_Co qg ad), (qg, k_Sc g), (ad 0, .inl (ca 0, 367, .inl (x 0))), (ad 1, .inl (ca 1, 367, .inl (x 1))), (ad 2, .inl (ca 2, 367, .inl (x 2))), (ad 3, .inl (ca 3, 367, .inl (x 3)))]) H := hP.sub [0, 1, 2, 3, 4, 5] rfl
        have hD9 : va_D A ([(qc, k_Co qg ad), (qg, k_Sc g), (ad 0, .inl (ca 0, 367, .inl (x 0))), (ad 1, .inl (ca 1, 367, .inl (x 1))), (ad 2, .inl (ca 2, 367, .inl (x 2))), (ad 3, .inl (ca 3, 367, .inl (x 3)))]) := hD.sub [0, 1, 2, 3, 4, 5] (by decide) rfl
        exact W.zret (v := 0) hx hb hr rfl (fun t ht hW => ⟨⟨0, (), rfl, by rw [f_turnsAbove, e_1, f_turnsAbove_2, if_neg c_3, if_neg c_4, e_5, f_turnsAbove_6, if_pos c_7], by rw [ht]; exact hP9, va_K.moved hW.alike (hK.sub [0, 1, 2, 3] rfl), hD9⟩, hS.F ht⟩) hS.2.2 d_Co_turnsAbove_37
      · refine lv_iconst (v := 1) hx hb d_Co_turnsAbove_32 (by decide) ?_
        refine lv_goto (tgt := 37) hx hb d_Co_turnsAbove_33 (by decide) ?_
        have hP9 : va_P D vwCl ([(qc, k_Co qg ad), (qg, k_Sc g), (ad 0, .inl (ca 0, 367, .inl (x 0))), (ad 1, .inl (ca 1, 367, .inl (x 1))), (ad 2, .inl (ca 2, 367, .inl (x 2))), (ad 3, .inl (ca 3, 367, .inl (x 3)))]) H := hP.sub [0, 1, 2, 3, 4, 5] rfl
        have hD9 : va_D A ([(qc, k_Co qg ad), (qg, k_Sc g), (ad 0, .inl (ca 0, 367, .inl (x 0))), (ad 1, .inl (ca 1, 367, .inl (x 1))), (ad 2, .inl (ca 2, 367, .inl (x 2))), (ad 3, .inl (ca 3, 367, .inl (x 3)))]) := hD.sub [0, 1, 2, 3, 4, 5] (by decide) rfl
        exact W.zret (v := 1) hx hb hr rfl (fun t ht hW => ⟨⟨1, (), rfl, by rw [f_turnsAbove, e_1, f_turnsAbove_2, if_neg c_3, if_neg c_4, e_5, f_turnsAbove_6, if_neg c_7], by rw [ht]; exact hP9, va_K.moved hW.alike (hK.sub [0, 1, 2, 3] rfl), hD9⟩, hS.F ht⟩) hS.2.2 d_Co_turnsAbove_37
def f_turn_2 (g : Nat → Int32) (x : Nat → Nat → Int32) (q : Int32) (v : Int32) (r_1 : Int32) : Int32 :=
  if r_1 = 0 then
    if 0 ≤ v then 0
    else 1
  else
    if v ≤ 0 then 0
    else 1
def f_turn (g : Nat → Int32) (x : Nat → Nat → Int32) (q : Int32) (v : Int32) : Int32 := f_turn_2 g x q v (f_turnsAbove g x q)
set_option maxHeartbeats 4000000 in
set_option maxRecDepth 100000 in
theorem c_turn (l : Launch) (D : va_G) (sa : Nat → Nat) (sz : Nat) (qc : Nat) (qg : Nat) (ad : Nat → Nat) (ca : Nat → ClassId) (g : Nat → Int32) (x : Nat → Nat → Int32) (q : Int32) (v : Int32)  : Met l y_Co_turn w_Co_turn ({ frames := 3, cells := 0, slots := 0, locals := 64 }) (va_Pc [.ref qc, .int q, .int v] (vq_pre D sa [(qc, k_Co qg ad), (qg, k_Sc g), (ad 0, .inl (ca 0, 367, .inl (x 0))), (ad 1, .inl (ca 1, 367, .inl (x 1))), (ad 2, .inl (ca 2, 367, .inl (x 2))), (ad 3, .inl (ca 3, 367, .inl (x 3)))] [(ca 0, .int), (ca 1, .int), (ca 2, .int), (ca 3, .int)] sz)) (va_Qi (fun (r0 : Int32) (u : Unit) => f_turn g x q v = r0) (vq_B D (va_A [(qc, k_Co qg ad), (qg, k_Sc g), (ad 0, .inl (ca 0, 367, .inl (x 0))), (ad 1, .inl (ca 1, 367, .inl (x 1))), (ad 2, .inl (ca 2, 367, .inl (x 2))), (ad 3, .inl (ca 3, 367, .inl (x 3)))] sz) [(ca 0, .int), (ca 1, .int), (ca 2, .int), (ca 3, .int)] (fun (u : Unit) => [(qc, k_Co qg ad), (qg, k_Sc g), (ad 0, .inl (ca 0, 367, .inl (x 0))), (ad 1, .inl (ca 1, 367, .inl (x 1))), (ad 2, .inl (ca 2, 367, .inl (x 2))), (ad 3, .inl (ca 3, 367, .inl (x 3)))])) (va_A [(qc, k_Co qg ad), (qg, k_Sc g), (ad 0, .inl (ca 0, 367, .inl (x 0))), (ad 1, .inl (ca 1, 367, .inl (x 1))), (ad 2, .inl (ca 2, 367, .inl (x 2))), (ad 3, .inl (ca 3, 367, .inl (x 3)))] sz)) 0 0 (va_A [(qc, k_Co qg ad), (qg, k_Sc g), (ad 0, .inl (ca 0, 367, .inl (x 0))), (ad 1, .inl (ca 1, 367, .inl (x 1))), (ad 2, .inl (ca 2, 367, .inl (x 2))), (ad 3, .inl (ca 3, 367, .inl (x 3)))] sz) := by
  refine Met.ofW (cc := b_Co_turn) (maxL := 4) (ret := (some .int)) (by decide) rfl ?_
  intro p e s m args below meth c s₁ B hml hv
  obtain ⟨rfl, hsz, hP, hK, hD0, hE⟩ := hv
  have hx := B.exec
  have hb := B.bytes
  have hr := B.returns
  have hts := atoms_spec (ws := w_Co_turn) B.pre
  have hu : ∀ w9 ∈ vU, Cond.before w9 ([.ref qc, .int q, .int v]).toArray s = true := fun w9 h => hts w9 (List.mem_cons_of_mem _ h)
  have hown : s.vm.findClass R_Co = some m.cls := findClass_of_methodNamed B.named
  have hlocks := B.notSynchronized
  subst hsz
  have hD := hD0.self (sz := s.heap.size)
  generalize hAe : va_A [(qc, k_Co qg ad), (qg, k_Sc g), (ad 0, .inl (ca 0, 367, .inl (x 0))), (ad 1, .inl (ca 1, 367, .inl (x 1))), (ad 2, .inl (ca 2, 367, .inl (x 2))), (ad 3, .inl (ca 3, 367, .inl (x 3)))] s.heap.size = A at hD ⊢
  have hA : ∀ q : Nat, s.heap.size ≤ q → A q := fun q h => by rw [← hAe]; exact Or.inr h
  have hS : va_S A s.heap s.heap [] := va_S.rf
  have hP : va_P D vwCl [(qc, k_Co qg ad), (qg, k_Sc g), (ad 0, .inl (ca 0, 367, .inl (x 0))), (ad 1, .inl (ca 1, 367, .inl (x 1))), (ad 2, .inl (ca 2, 367, .inl (x 2))), (ad 3, .inl (ca 3, 367, .inl (x 3)))] s.heap := hP
  have hl := lv_entry ([.ref qc, .int q, .int v]) (n := 4) (Nat.le_of_ble_eq_true rfl)
  rw [lg_entry_eq]
  generalize (lg_sl ([.ref qc, .int q, .int v]) ++ List.replicate (4 - (lg_sl ([.ref qc, .int q, .int v])).length) Slot.unset).toArray = ls at hl ⊢
  have hl : lv_has ls 4 [(0, .ref qc), (1, .int q), (2, .int v)] := hl
  refine lv_aload_n hx hb d_Co_turn_0 rfl (lv_at hl 0 rfl) ?_
  refine lv_iload_n hx hb d_Co_turn_1 rfl (lv_at hl 1 rfl) ?_
  refine vq_i (wr := []) (va_runV (As := [.int q]) (rest := []) ⟨hx, hb, hml, hown, hts⟩ (c_turnsAbove l D sa s.heap.size qc qg ad ca g x q) (cwV 1 hts (vg_V (fun w h => List.mem_cons_of_mem _ h) hw_396 hw_397 hw_8 hw_36 hw_398) rfl rfl rfl (by decide +kernel) ⟨Nat.le_of_ble_eq_true rfl, Nat.le_of_ble_eq_true rfl⟩) (vq_pV hE hK hP hD [0, 1, 2, 3, 4, 5] [0, 1, 2, 3] rfl (by decide) rfl 4 0 rfl rfl rfl) rfl rfl hl.1 rfl (lv_room (Nat.le_of_ble_eq_true rfl)) d_Co_turn_2 ⟨Nat.le_of_ble_eq_true rfl, Nat.le_of_ble_eq_true rfl⟩) hP hD hS hA [0, 1, 2, 3, 4, 5] [] rfl rfl (by decide) (by decide) (fun r_1 u_1 H locs e_1 hP hD hS => ?_)
  have hP : va_P D vwCl [(qc, k_Co qg ad), (qg, k_Sc g), (ad 0, .inl (ca 0, 367, .inl (x 0))), (ad 1, .inl (ca 1, 367, .inl (x 1))), (ad 2, .inl (ca 2, 367, .inl (x 2))), (ad 3, .inl (ca 3, 367, .inl (x 3)))] H := hP
  have hD : va_D A [(qc, k_Co qg ad), (qg, k_Sc g), (ad 0, .inl (ca 0, 367, .inl (x 0))), (ad 1, .inl (ca 1, 367, .inl (x 1))), (ad 2, .inl (ca 2, 367, .inl (x 2))), (ad 3, .inl (ca 3, 367, .inl (x 3)))] := hD
  refine lv_if_eq (tgt := 20) hx hb d_Co_turn_5 (by decide) (fun c_3 => ?_) (fun c_3 => ?_)
  · refine lv_iload_n hx hb d_Co_turn_20 rfl (lv_at hl 2 rfl) ?_
    refine lv_if_ge (tgt := 28) hx hb d_Co_turn_21 (by decide) (fun c_4 => ?_) (fun c_4 => ?_)
    · refine lv_iconst (v := 0) hx hb d_Co_turn_28 (by decide) ?_
      refine lv_istore_n (lv' := [(3, .int 0), (0, .ref qc), (1, .int q), (2, .int v)]) hx hb d_Co_turn_29 rfl hl (by decide) rfl (fun ls hl => ?_)
      refine lv_iload_n hx hb d_Co_turn_30 rfl (lv_at hl 0 rfl) ?_
      refine lv_if_eq (tgt := 38) hx hb d_Co_turn_31 (by decide) (fun c_5 => ?_) (fun c_5 => absurd c_5 (by decide))
      refine lv_iconst (v := 0) hx hb d_Co_turn_38 (by decide) ?_
      have hP9 : va_P D vwCl ([(qc, k_Co qg ad), (qg, k_Sc g), (ad 0, .inl (ca 0, 367, .inl (x 0))), (ad 1, .inl (ca 1, 367, .inl (x 1))), (ad 2, .inl (ca 2, 367, .inl (x 2))), (ad 3, .inl (ca 3, 367, .inl (x 3)))]) H := hP.sub [0, 1, 2, 3, 4, 5] rfl
      have hD9 : va_D A ([(qc, k_Co qg ad), (qg, k_Sc g), (ad 0, .inl (ca 0, 367, .inl (x 0))), (ad 1, .inl (ca 1, 367, .inl (x 1))), (ad 2, .inl (ca 2, 367, .inl (x 2))), (ad 3, .inl (ca 3, 367, .inl (x 3)))]) := hD.sub [0, 1, 2, 3, 4, 5] (by decide) rfl
      exact W.iret (v := 0) hx hb hr (fun t ht hW => ⟨⟨0, (), rfl, by rw [f_turn, e_1, f_turn_2, if_pos c_3, if_pos c_4], by rw [ht]; exact hP9, va_K.moved hW.alike (hK.sub [0, 1, 2, 3] rfl), hD9⟩, hS.F ht⟩) hS.2.2 d_Co_turn_39
    · refine lv_iconst (v := 1) hx hb d_Co_turn_24 (by decide) ?_
      refine lv_goto (tgt := 29) hx hb d_Co_turn_25 (by decide) ?_
      refine lv_istore_n (lv' := [(3, .int 1), (0, .ref qc), (1, .int q), (2, .int v)]) hx hb d_Co_turn_29 rfl hl (by decide) rfl (fun ls hl => ?_)
      refine lv_iload_n hx hb d_Co_turn_30 rfl (lv_at hl 0 rfl) ?_
      refine lv_if_eq (tgt := 38) hx hb d_Co_turn_31 (by decide) (fun c_6 => absurd c_6 (by decide)) (fun c_6 => ?_)
      refine lv_iconst (v := 1) hx hb d_Co_turn_34 (by decide) ?_
      refine lv_goto (tgt := 39) hx hb d_Co_turn_35 (by decide) ?_
      have hP9 : va_P D vwCl ([(qc, k_Co qg ad), (qg, k_Sc g), (ad 0, .inl (ca 0, 367, .inl (x 0))), (ad 1, .inl (ca 1, 367, .inl (x 1))), (ad 2, .inl (ca 2, 367, .inl (x 2))), (ad 3, .inl (ca 3, 367, .inl (x 3)))]) H := hP.sub [0, 1, 2, 3, 4, 5] rfl
      have hD9 : va_D A ([(qc, k_Co qg ad), (qg, k_Sc g), (ad 0, .inl (ca 0, 367, .inl (x 0))), (ad 1, .inl (ca 1, 367, .inl (x 1))), (ad 2, .inl (ca 2, 367, .inl (x 2))), (ad 3, .inl (ca 3, 367, .inl (x 3)))]) := hD.sub [0, 1, 2, 3, 4, 5] (by decide) rfl
      exact W.iret (v := 1) hx hb hr (fun t ht hW => ⟨⟨1, (), rfl, by rw [f_turn, e_1, f_turn_2, if_pos c_3, if_neg c_4], by rw [ht]; exact hP9, va_K.moved hW.alike (hK.sub [0, 1, 2, 3] rfl), hD9⟩, hS.F ht⟩) hS.2.2 d_Co_turn_39
  · refine lv_iload_n hx hb d_Co_turn_8 rfl (lv_at hl 2 rfl) ?_
    refine lv_if_le (tgt := 16) hx hb d_Co_turn_9 (by decide) (fun c_7 => ?_) (fun c_7 => ?_)
    · refine lv_iconst (v := 0) hx hb d_Co_turn_16 (by decide) ?_
      refine lv_goto (tgt := 29) hx hb d_Co_turn_17 (by decide) ?_
      refine lv_istore_n (lv' := [(3, .int 0), (0, .ref qc), (1, .int q), (2, .int v)]) hx hb d_Co_turn_29 rfl hl (by decide) rfl (fun ls hl => ?_)
      refine lv_iload_n hx hb d_Co_turn_30 rfl (lv_at hl 0 rfl) ?_
      refine lv_if_eq (tgt := 38) hx hb d_Co_turn_31 (by decide) (fun c_8 => ?_) (fun c_8 => absurd c_8 (by decide))
      refine lv_iconst (v := 0) hx hb d_Co_turn_38 (by decide) ?_
      have hP9 : va_P D vwCl ([(qc, k_Co qg ad), (qg, k_Sc g), (ad 0, .inl (ca 0, 367, .inl (x 0))), (ad 1, .inl (ca 1, 367, .inl (x 1))), (ad 2, .inl (ca 2, 367, .inl (x 2))), (ad 3, .inl (ca 3, 367, .inl (x 3)))]) H := hP.sub [0, 1, 2, 3, 4, 5] rfl
      have hD9 : va_D A ([(qc, k_Co qg ad), (qg, k_Sc g), (ad 0, .inl (ca 0, 367, .inl (x 0))), (ad 1, .inl (ca 1, 367, .inl (x 1))), (ad 2, .inl (ca 2, 367, .inl (x 2))), (ad 3, .inl (ca 3, 367, .inl (x 3)))]) := hD.sub [0, 1, 2, 3, 4, 5] (by decide) rfl
      exact W.iret (v := 0) hx hb hr (fun t ht hW => ⟨⟨0, (), rfl, by rw [f_turn, e_1, f_turn_2, if_neg c_3, if_pos c_7], by rw [ht]; exact hP9, va_K.moved hW.alike (hK.sub [0, 1, 2, 3] rfl), hD9⟩, hS.F ht⟩) hS.2.2 d_Co_turn_39
    · refine lv_iconst (v := 1) hx hb d_Co_turn_12 (by decide) ?_
      refine lv_goto (tgt := 29) hx hb d_Co_turn_13 (by decide) ?_
      refine lv_istore_n (lv' := [(3, .int 1), (0, .ref qc), (1, .int q), (2, .int v)]) hx hb d_Co_turn_29 rfl hl (by decide) rfl (fun ls hl => ?_)
      refine lv_iload_n hx hb d_Co_turn_30 rfl (lv_at hl 0 rfl) ?_
      refine lv_if_eq (tgt := 38) hx hb d_Co_turn_31 (by decide) (fun c_9 => absurd c_9 (by decide)) (fun c_9 => ?_)
      refine lv_iconst (v := 1) hx hb d_Co_turn_34 (by decide) ?_
      refine lv_goto (tgt := 39) hx hb d_Co_turn_35 (by decide) ?_
      have hP9 : va_P D vwCl ([(qc, k_Co qg ad), (qg, k_Sc g), (ad 0, .inl (ca 0, 367, .inl (x 0))), (ad 1, .inl (ca 1, 367, .inl (x 1))), (ad 2, .inl (ca 2, 367, .inl (x 2))), (ad 3, .inl (ca 3, 367, .inl (x 3)))]) H := hP.sub [0, 1, 2, 3, 4, 5] rfl
      have hD9 : va_D A ([(qc, k_Co qg ad), (qg, k_Sc g), (ad 0, .inl (ca 0, 367, .inl (x 0))), (ad 1, .inl (ca 1, 367, .inl (x 1))), (ad 2, .inl (ca 2, 367, .inl (x 2))), (ad 3, .inl (ca 3, 367, .inl (x 3)))]) := hD.sub [0, 1, 2, 3, 4, 5] (by decide) rfl
      exact W.iret (v := 1) hx hb hr (fun t ht hW => ⟨⟨1, (), rfl, by rw [f_turn, e_1, f_turn_2, if_neg c_3, if_neg c_7], by rw [ht]; exact hP9, va_K.moved hW.alike (hK.sub [0, 1, 2, 3] rfl), hD9⟩, hS.F ht⟩) hS.2.2 d_Co_turn_39
def f_held_2 (g : Nat → Int32) (x : Nat → Nat → Int32) (q : Int32) (w : Int32) (r_1 : Int32) : Int32 :=
  if r_1 = 0 then 0
  else
    if w = 0 then (x 0) (q).toNatClampNeg
    else
      if w = 1 then (x 1) (q).toNatClampNeg
      else
        if w = 2 then (x 2) (q).toNatClampNeg
        else (x 3) (q).toNatClampNeg
def f_held (g : Nat → Int32) (x : Nat → Nat → Int32) (q : Int32) (w : Int32) : Int32 := f_held_2 g x q w (f_has q)
set_option maxHeartbeats 4000000 in
set_option maxRecDepth 100000 in
theorem c_held (l : Launch) (D : va_G) (sa : Nat → Nat) (sz : Nat) (qc : Nat) (qg : Nat) (ad : Nat → Nat) (ca : Nat → ClassId) (g : Nat → Int32) (x : Nat → Nat → Int32) (q : Int32) (w : Int32)  : Met l y_Co_held w_Co_held ({ frames := 1, cells := 0, slots := 0, locals := 20 }) (va_Pc [.ref qc, .int q, .int w] (vq_pre D sa [(qc, k_Co qg ad), (qg, k_Sc g), (ad 0, .inl (ca 0, 367, .inl (x 0))), (ad 1, .inl (ca 1, 367, .inl (x 1))), (ad 2, .inl (ca 2, 367, .inl (x 2))), (ad 3, .inl (ca 3, 367, .inl (x 3)))] [(ca 0, .int), (ca 1, .int), (ca 2, .int), (ca 3, .int)] sz)) (va_Qi (fun (r0 : Int32) (u : Unit) => f_held g x q w = r0) (vq_B D (va_A [(qc, k_Co qg ad), (qg, k_Sc g), (ad 0, .inl (ca 0, 367, .inl (x 0))), (ad 1, .inl (ca 1, 367, .inl (x 1))), (ad 2, .inl (ca 2, 367, .inl (x 2))), (ad 3, .inl (ca 3, 367, .inl (x 3)))] sz) [(ca 0, .int), (ca 1, .int), (ca 2, .int), (ca 3, .int)] (fun (u : Unit) => [(qc, k_Co qg ad), (qg, k_Sc g), (ad 0, .inl (ca 0, 367, .inl (x 0))), (ad 1, .inl (ca 1, 367, .inl (x 1))), (ad 2, .inl (ca 2, 367, .inl (x 2))), (ad 3, .inl (ca 3, 367, .inl (x 3)))])) (va_A [(qc, k_Co qg ad), (qg, k_Sc g), (ad 0, .inl (ca 0, 367, .inl (x 0))), (ad 1, .inl (ca 1, 367, .inl (x 1))), (ad 2, .inl (ca 2, 367, .inl (x 2))), (ad 3, .inl (ca 3, 367, .inl (x 3)))] sz)) 0 0 (va_A [(qc, k_Co qg ad), (qg, k_Sc g), (ad 0, .inl (ca 0, 367, .inl (x 0))), (ad 1, .inl (ca 1, 367, .inl (x 1))), (ad 2, .inl (ca 2, 367, .inl (x 2))), (ad 3, .inl (ca 3, 367, .inl (x 3)))] sz) := by
  refine Met.ofW (cc := b_Co_held) (maxL := 3) (ret := (some .int)) (by decide) rfl ?_
  intro p e s m args below meth c s₁ B hml hv
  obtain ⟨rfl, hsz, hP, hK, hD0, hE⟩ := hv
  have hx := B.exec
  have hb := B.bytes
  have hr := B.returns
  have hts := atoms_spec (ws := w_Co_held) B.pre
  have hu : ∀ w9 ∈ vU, Cond.before w9 ([.ref qc, .int q, .int w]).toArray s = true := fun w9 h => hts w9 (List.mem_cons_of_mem _ h)
  have hown : s.vm.findClass R_Co = some m.cls := findClass_of_methodNamed B.named
  have hlocks := B.notSynchronized
  subst hsz
  have hD := hD0.self (sz := s.heap.size)
  generalize hAe : va_A [(qc, k_Co qg ad), (qg, k_Sc g), (ad 0, .inl (ca 0, 367, .inl (x 0))), (ad 1, .inl (ca 1, 367, .inl (x 1))), (ad 2, .inl (ca 2, 367, .inl (x 2))), (ad 3, .inl (ca 3, 367, .inl (x 3)))] s.heap.size = A at hD ⊢
  have hA : ∀ q : Nat, s.heap.size ≤ q → A q := fun q h => by rw [← hAe]; exact Or.inr h
  have hS : va_S A s.heap s.heap [] := va_S.rf
  have hP : va_P D vwCl [(qc, k_Co qg ad), (qg, k_Sc g), (ad 0, .inl (ca 0, 367, .inl (x 0))), (ad 1, .inl (ca 1, 367, .inl (x 1))), (ad 2, .inl (ca 2, 367, .inl (x 2))), (ad 3, .inl (ca 3, 367, .inl (x 3)))] s.heap := hP
  have hl := lv_entry ([.ref qc, .int q, .int w]) (n := 3) (Nat.le_of_ble_eq_true rfl)
  rw [lg_entry_eq]
  generalize (lg_sl ([.ref qc, .int q, .int w]) ++ List.replicate (3 - (lg_sl ([.ref qc, .int q, .int w])).length) Slot.unset).toArray = ls at hl ⊢
  have hl : lv_has ls 3 [(0, .ref qc), (1, .int q), (2, .int w)] := hl
  refine lv_iload_n hx hb d_Co_held_0 rfl (lv_at hl 1 rfl) ?_
  refine vq_i (wr := [(qc, k_Co qg ad), (qg, k_Sc g), (ad 0, .inl (ca 0, 367, .inl (x 0))), (ad 1, .inl (ca 1, 367, .inl (x 1))), (ad 2, .inl (ca 2, 367, .inl (x 2))), (ad 3, .inl (ca 3, 367, .inl (x 3)))]) (va_runS (As := [.int q]) (rest := []) ⟨hx, hb, hml, hown, hts⟩ (c_has l D sa s.heap.size q) (va_cwS 1 hts (vg_S (fun w h => List.mem_cons_of_mem _ h) hw_356 hw_357 hw_36 hw_358) rfl rfl rfl (by decide +kernel) ⟨Nat.le_of_ble_eq_true rfl, Nat.le_of_ble_eq_true rfl⟩) (vq_pS hE hK hP hD [] [] rfl (by decide) rfl) rfl rfl hl.1 rfl (lv_room (Nat.le_of_ble_eq_true rfl)) d_Co_held_1 ⟨Nat.le_of_ble_eq_true rfl, Nat.le_of_ble_eq_true rfl⟩) hP hD hS hA [] [0, 1, 2, 3, 4, 5] rfl rfl (by decide) (by decide) (fun r_1 u_1 H locs e_1 hP hD hS => ?_)
  have hP : va_P D vwCl [(qc, k_Co qg ad), (qg, k_Sc g), (ad 0, .inl (ca 0, 367, .inl (x 0))), (ad 1, .inl (ca 1, 367, .inl (x 1))), (ad 2, .inl (ca 2, 367, .inl (x 2))), (ad 3, .inl (ca 3, 367, .inl (x 3)))] H := hP
  have hD : va_D A [(qc, k_Co qg ad), (qg, k_Sc g), (ad 0, .inl (ca 0, 367, .inl (x 0))), (ad 1, .inl (ca 1, 367, .inl (x 1))), (ad 2, .inl (ca 2, 367, .inl (x 2))), (ad 3, .inl (ca 3, 367, .inl (x 3)))] := hD
  refine lv_if_ne (tgt := 9) hx hb d_Co_held_4 (by decide) (fun c_3 => ?_) (fun c_3 => ?_)
  · refine lv_iload_n hx hb d_Co_held_9 rfl (lv_at hl 2 rfl) ?_
    rcases Classical.em (w = 0) with c_4 | c_4
    · refine lv_tableIn (off := 26) (tgt := 36) hx hb d_Co_held_10 (by rw [c_4]; decide) (by rw [c_4]; decide) (by rw [c_4]; rfl) (by decide) ?_
      refine lv_aload_n hx hb d_Co_held_36 rfl (lv_at hl 0 rfl) ?_
      refine va_get (D := D) (ci := 4) (v := .ref (ad 0)) (C := R_Co) (T := T_Co) (N := 5) hx hb hu in_Co hown hK hP 0 rfl rfl 1 (by decide) (hu _ hw_125) (fun _ h9 => h9) rfl d_Co_held_37 ?_
      refine lv_iload_n hx hb d_Co_held_40 rfl (lv_at hl 1 rfl) ?_
      refine va_iald hx hb hK hP 2 0 rfl rfl (vq_hasr (by assumption) (by assumption)) d_Co_held_41 ?_
      have hP9 : va_P D vwCl ([(qc, k_Co qg ad), (qg, k_Sc g), (ad 0, .inl (ca 0, 367, .inl (x 0))), (ad 1, .inl (ca 1, 367, .inl (x 1))), (ad 2, .inl (ca 2, 367, .inl (x 2))), (ad 3, .inl (ca 3, 367, .inl (x 3)))]) H := hP.sub [0, 1, 2, 3, 4, 5] rfl
      have hD9 : va_D A ([(qc, k_Co qg ad), (qg, k_Sc g), (ad 0, .inl (ca 0, 367, .inl (x 0))), (ad 1, .inl (ca 1, 367, .inl (x 1))), (ad 2, .inl (ca 2, 367, .inl (x 2))), (ad 3, .inl (ca 3, 367, .inl (x 3)))]) := hD.sub [0, 1, 2, 3, 4, 5] (by decide) rfl
      exact W.iret (v := (x 0) (q).toNatClampNeg) hx hb hr (fun t ht hW => ⟨⟨(x 0) (q).toNatClampNeg, (), rfl, by rw [f_held, e_1, f_held_2, if_neg c_3, if_pos c_4], by rw [ht]; exact hP9, va_K.moved hW.alike (hK.sub [0, 1, 2, 3] rfl), hD9⟩, hS.F ht⟩) hS.2.2 d_Co_held_42
    · rcases Classical.em (w = 1) with c_5 | c_5
      · refine lv_tableIn (off := 33) (tgt := 43) hx hb d_Co_held_10 (by rw [c_5]; decide) (by rw [c_5]; decide) (by rw [c_5]; rfl) (by decide) ?_
        refine lv_aload_n hx hb d_Co_held_43 rfl (lv_at hl 0 rfl) ?_
        refine va_get (D := D) (ci := 4) (v := .ref (ad 1)) (C := R_Co) (T := T_Co) (N := 5) hx hb hu in_Co hown hK hP 0 rfl rfl 2 (by decide) (hu _ hw_126) (fun _ h9 => h9) rfl d_Co_held_44 ?_
        refine lv_iload_n hx hb d_Co_held_47 rfl (lv_at hl 1 rfl) ?_
        refine va_iald hx hb hK hP 3 1 rfl rfl (vq_hasr (by assumption) (by assumption)) d_Co_held_48 ?_
        have hP9 : va_P D vwCl ([(qc, k_Co qg ad), (qg, k_Sc g), (ad 0, .inl (ca 0, 367, .inl (x 0))), (ad 1, .inl (ca 1, 367, .inl (x 1))), (ad 2, .inl (ca 2, 367, .inl (x 2))), (ad 3, .inl (ca 3, 367, .inl (x 3)))]) H := hP.sub [0, 1, 2, 3, 4, 5] rfl
        have hD9 : va_D A ([(qc, k_Co qg ad), (qg, k_Sc g), (ad 0, .inl (ca 0, 367, .inl (x 0))), (ad 1, .inl (ca 1, 367, .inl (x 1))), (ad 2, .inl (ca 2, 367, .inl (x 2))), (ad 3, .inl (ca 3, 367, .inl (x 3)))]) := hD.sub [0, 1, 2, 3, 4, 5] (by decide) rfl
        exact W.iret (v := (x 1) (q).toNatClampNeg) hx hb hr (fun t ht hW => ⟨⟨(x 1) (q).toNatClampNeg, (), rfl, by rw [f_held, e_1, f_held_2, if_neg c_3, if_neg c_4, if_pos c_5], by rw [ht]; exact hP9, va_K.moved hW.alike (hK.sub [0, 1, 2, 3] rfl), hD9⟩, hS.F ht⟩) hS.2.2 d_Co_held_49
      · rcases Classical.em (w = 2) with c_6 | c_6
        · refine lv_tableIn (off := 40) (tgt := 50) hx hb d_Co_held_10 (by rw [c_6]; decide) (by rw [c_6]; decide) (by rw [c_6]; rfl) (by decide) ?_
          refine lv_aload_n hx hb d_Co_held_50 rfl (lv_at hl 0 rfl) ?_
          refine va_get (D := D) (ci := 4) (v := .ref (ad 2)) (C := R_Co) (T := T_Co) (N := 5) hx hb hu in_Co hown hK hP 0 rfl rfl 3 (by decide) (hu _ hw_127) (fun _ h9 => h9) rfl d_Co_held_51 ?_
          refine lv_iload_n hx hb d_Co_held_54 rfl (lv_at hl 1 rfl) ?_
          refine va_iald hx hb hK hP 4 2 rfl rfl (vq_hasr (by assumption) (by assumption)) d_Co_held_55 ?_
          have hP9 : va_P D vwCl ([(qc, k_Co qg ad), (qg, k_Sc g), (ad 0, .inl (ca 0, 367, .inl (x 0))), (ad 1, .inl (ca 1, 367, .inl (x 1))), (ad 2, .inl (ca 2, 367, .inl (x 2))), (ad 3, .inl (ca 3, 367, .inl (x 3)))]) H := hP.sub [0, 1, 2, 3, 4, 5] rfl
          have hD9 : va_D A ([(qc, k_Co qg ad), (qg, k_Sc g), (ad 0, .inl (ca 0, 367, .inl (x 0))), (ad 1, .inl (ca 1, 367, .inl (x 1))), (ad 2, .inl (ca 2, 367, .inl (x 2))), (ad 3, .inl (ca 3, 367, .inl (x 3)))]) := hD.sub [0, 1, 2, 3, 4, 5] (by decide) rfl
          exact W.iret (v := (x 2) (q).toNatClampNeg) hx hb hr (fun t ht hW => ⟨⟨(x 2) (q).toNatClampNeg, (), rfl, by rw [f_held, e_1, f_held_2, if_neg c_3, if_neg c_4, if_neg c_5, if_pos c_6], by rw [ht]; exact hP9, va_K.moved hW.alike (hK.sub [0, 1, 2, 3] rfl), hD9⟩, hS.F ht⟩) hS.2.2 d_Co_held_56
        · refine lv_tableOut (tgt := 57) hx hb d_Co_held_10 (vq_out3 c_4 c_5 c_6) (by decide) ?_
          refine lv_aload_n hx hb d_Co_held_57 rfl (lv_at hl 0 rfl) ?_
          refine va_get (D := D) (ci := 4) (v := .ref (ad 3)) (C := R_Co) (T := T_Co) (N := 5) hx hb hu in_Co hown hK hP 0 rfl rfl 4 (by decide) (hu _ hw_128) (fun _ h9 => h9) rfl d_Co_held_58 ?_
          refine lv_iload_n hx hb d_Co_held_61 rfl (lv_at hl 1 rfl) ?_
          refine va_iald hx hb hK hP 5 3 rfl rfl (vq_hasr (by assumption) (by assumption)) d_Co_held_62 ?_
          have hP9 : va_P D vwCl ([(qc, k_Co qg ad), (qg, k_Sc g), (ad 0, .inl (ca 0, 367, .inl (x 0))), (ad 1, .inl (ca 1, 367, .inl (x 1))), (ad 2, .inl (ca 2, 367, .inl (x 2))), (ad 3, .inl (ca 3, 367, .inl (x 3)))]) H := hP.sub [0, 1, 2, 3, 4, 5] rfl
          have hD9 : va_D A ([(qc, k_Co qg ad), (qg, k_Sc g), (ad 0, .inl (ca 0, 367, .inl (x 0))), (ad 1, .inl (ca 1, 367, .inl (x 1))), (ad 2, .inl (ca 2, 367, .inl (x 2))), (ad 3, .inl (ca 3, 367, .inl (x 3)))]) := hD.sub [0, 1, 2, 3, 4, 5] (by decide) rfl
          exact W.iret (v := (x 3) (q).toNatClampNeg) hx hb hr (fun t ht hW => ⟨⟨(x 3) (q).toNatClampNeg, (), rfl, by rw [f_held, e_1, f_held_2, if_neg c_3, if_neg c_4, if_neg c_5, if_neg c_6], by rw [ht]; exact hP9, va_K.moved hW.alike (hK.sub [0, 1, 2, 3] rfl), hD9⟩, hS.F ht⟩) hS.2.2 d_Co_held_63
  · refine lv_iconst (v := 0) hx hb d_Co_held_7 (by decide) ?_
    have hP9 : va_P D vwCl ([(qc, k_Co qg ad), (qg, k_Sc g), (ad 0, .inl (ca 0, 367, .inl (x 0))), (ad 1, .inl (ca 1, 367, .inl (x 1))), (ad 2, .inl (ca 2, 367, .inl (x 2))), (ad 3, .inl (ca 3, 367, .inl (x 3)))]) H := hP.sub [0, 1, 2, 3, 4, 5] rfl
    have hD9 : va_D A ([(qc, k_Co qg ad), (qg, k_Sc g), (ad 0, .inl (ca 0, 367, .inl (x 0))), (ad 1, .inl (ca 1, 367, .inl (x 1))), (ad 2, .inl (ca 2, 367, .inl (x 2))), (ad 3, .inl (ca 3, 367, .inl (x 3)))]) := hD.sub [0, 1, 2, 3, 4, 5] (by decide) rfl
    exact W.iret (v := 0) hx hb hr (fun t ht hW => ⟨⟨0, (), rfl, by rw [f_held, e_1, f_held_2, if_pos c_3], by rw [ht]; exact hP9, va_K.moved hW.alike (hK.sub [0, 1, 2, 3] rfl), hD9⟩, hS.F ht⟩) hS.2.2 d_Co_held_8
def f_correction_2 (g : Nat → Int32) (x : Nat → Nat → Int32) (q : Int32) (r_1 : Int32) : Int32 :=
  if r_1 = 0 then 0
  else (x 2) (q).toNatClampNeg
def f_correction (g : Nat → Int32) (x : Nat → Nat → Int32) (q : Int32) : Int32 := f_correction_2 g x q (f_has q)
set_option maxHeartbeats 4000000 in
set_option maxRecDepth 100000 in
theorem c_correction (l : Launch) (D : va_G) (sa : Nat → Nat) (sz : Nat) (qc : Nat) (qg : Nat) (ad : Nat → Nat) (ca : Nat → ClassId) (g : Nat → Int32) (x : Nat → Nat → Int32) (q : Int32)  : Met l y_Co_correction w_Co_correction ({ frames := 1, cells := 0, slots := 0, locals := 20 }) (va_Pc [.ref qc, .int q] (vq_pre D sa [(qc, k_Co qg ad), (qg, k_Sc g), (ad 0, .inl (ca 0, 367, .inl (x 0))), (ad 1, .inl (ca 1, 367, .inl (x 1))), (ad 2, .inl (ca 2, 367, .inl (x 2))), (ad 3, .inl (ca 3, 367, .inl (x 3)))] [(ca 0, .int), (ca 1, .int), (ca 2, .int), (ca 3, .int)] sz)) (va_Qi (fun (r0 : Int32) (u : Unit) => f_correction g x q = r0) (vq_B D (va_A [(qc, k_Co qg ad), (qg, k_Sc g), (ad 0, .inl (ca 0, 367, .inl (x 0))), (ad 1, .inl (ca 1, 367, .inl (x 1))), (ad 2, .inl (ca 2, 367, .inl (x 2))), (ad 3, .inl (ca 3, 367, .inl (x 3)))] sz) [(ca 0, .int), (ca 1, .int), (ca 2, .int), (ca 3, .int)] (fun (u : Unit) => [(qc, k_Co qg ad), (qg, k_Sc g), (ad 0, .inl (ca 0, 367, .inl (x 0))), (ad 1, .inl (ca 1, 367, .inl (x 1))), (ad 2, .inl (ca 2, 367, .inl (x 2))), (ad 3, .inl (ca 3, 367, .inl (x 3)))])) (va_A [(qc, k_Co qg ad), (qg, k_Sc g), (ad 0, .inl (ca 0, 367, .inl (x 0))), (ad 1, .inl (ca 1, 367, .inl (x 1))), (ad 2, .inl (ca 2, 367, .inl (x 2))), (ad 3, .inl (ca 3, 367, .inl (x 3)))] sz)) 0 0 (va_A [(qc, k_Co qg ad), (qg, k_Sc g), (ad 0, .inl (ca 0, 367, .inl (x 0))), (ad 1, .inl (ca 1, 367, .inl (x 1))), (ad 2, .inl (ca 2, 367, .inl (x 2))), (ad 3, .inl (ca 3, 367, .inl (x 3)))] sz) := by
  refine Met.ofW (cc := b_Co_correction) (maxL := 2) (ret := (some .int)) (by decide) rfl ?_
  intro p e s m args below meth c s₁ B hml hv
  obtain ⟨rfl, hsz, hP, hK, hD0, hE⟩ := hv
  have hx := B.exec
  have hb := B.bytes
  have hr := B.returns
  have hts := atoms_spec (ws := w_Co_correction) B.pre
  have hu : ∀ w9 ∈ vU, Cond.before w9 ([.ref qc, .int q]).toArray s = true := fun w9 h => hts w9 (List.mem_cons_of_mem _ h)
  have hown : s.vm.findClass R_Co = some m.cls := findClass_of_methodNamed B.named
  have hlocks := B.notSynchronized
  subst hsz
  have hD := hD0.self (sz := s.heap.size)
  generalize hAe : va_A [(qc, k_Co qg ad), (qg, k_Sc g), (ad 0, .inl (ca 0, 367, .inl (x 0))), (ad 1, .inl (ca 1, 367, .inl (x 1))), (ad 2, .inl (ca 2, 367, .inl (x 2))), (ad 3, .inl (ca 3, 367, .inl (x 3)))] s.heap.size = A at hD ⊢
  have hA : ∀ q : Nat, s.heap.size ≤ q → A q := fun q h => by rw [← hAe]; exact Or.inr h
  have hS : va_S A s.heap s.heap [] := va_S.rf
  have hP : va_P D vwCl [(qc, k_Co qg ad), (qg, k_Sc g), (ad 0, .inl (ca 0, 367, .inl (x 0))), (ad 1, .inl (ca 1, 367, .inl (x 1))), (ad 2, .inl (ca 2, 367, .inl (x 2))), (ad 3, .inl (ca 3, 367, .inl (x 3)))] s.heap := hP
  have hl := lv_entry ([.ref qc, .int q]) (n := 2) (Nat.le_of_ble_eq_true rfl)
  rw [lg_entry_eq]
  generalize (lg_sl ([.ref qc, .int q]) ++ List.replicate (2 - (lg_sl ([.ref qc, .int q])).length) Slot.unset).toArray = ls at hl ⊢
  have hl : lv_has ls 2 [(0, .ref qc), (1, .int q)] := hl
  refine lv_iload_n hx hb d_Co_correction_0 rfl (lv_at hl 1 rfl) ?_
  refine vq_i (wr := [(qc, k_Co qg ad), (qg, k_Sc g), (ad 0, .inl (ca 0, 367, .inl (x 0))), (ad 1, .inl (ca 1, 367, .inl (x 1))), (ad 2, .inl (ca 2, 367, .inl (x 2))), (ad 3, .inl (ca 3, 367, .inl (x 3)))]) (va_runS (As := [.int q]) (rest := []) ⟨hx, hb, hml, hown, hts⟩ (c_has l D sa s.heap.size q) (va_cwS 1 hts (vg_S (fun w h => List.mem_cons_of_mem _ h) hw_356 hw_357 hw_36 hw_358) rfl rfl rfl (by decide +kernel) ⟨Nat.le_of_ble_eq_true rfl, Nat.le_of_ble_eq_true rfl⟩) (vq_pS hE hK hP hD [] [] rfl (by decide) rfl) rfl rfl hl.1 rfl (lv_room (Nat.le_of_ble_eq_true rfl)) d_Co_correction_1 ⟨Nat.le_of_ble_eq_true rfl, Nat.le_of_ble_eq_true rfl⟩) hP hD hS hA [] [0, 1, 2, 3, 4, 5] rfl rfl (by decide) (by decide) (fun r_1 u_1 H locs e_1 hP hD hS => ?_)
  have hP : va_P D vwCl [(qc, k_Co qg ad), (qg, k_Sc g), (ad 0, .inl (ca 0, 367, .inl (x 0))), (ad 1, .inl (ca 1, 367, .inl (x 1))), (ad 2, .inl (ca 2, 367, .inl (x 2))), (ad 3, .inl (ca 3, 367, .inl (x 3)))] H := hP
  have hD : va_D A [(qc, k_Co qg ad), (qg, k_Sc g), (ad 0, .inl (ca 0, 367, .inl (x 0))), (ad 1, .inl (ca 1, 367, .inl (x 1))), (ad 2, .inl (ca 2, 367, .inl (x 2))), (ad 3, .inl (ca 3, 367, .inl (x 3)))] := hD
  refine lv_if_eq (tgt := 16) hx hb d_Co_correction_4 (by decide) (fun c_3 => ?_) (fun c_3 => ?_)
  · refine lv_iconst (v := 0) hx hb d_Co_correction_16 (by decide) ?_
    have hP9 : va_P D vwCl ([(qc, k_Co qg ad), (qg, k_Sc g), (ad 0, .inl (ca 0, 367, .inl (x 0))), (ad 1, .inl (ca 1, 367, .inl (x 1))), (ad 2, .inl (ca 2, 367, .inl (x 2))), (ad 3, .inl (ca 3, 367, .inl (x 3)))]) H := hP.sub [0, 1, 2, 3, 4, 5] rfl
    have hD9 : va_D A ([(qc, k_Co qg ad), (qg, k_Sc g), (ad 0, .inl (ca 0, 367, .inl (x 0))), (ad 1, .inl (ca 1, 367, .inl (x 1))), (ad 2, .inl (ca 2, 367, .inl (x 2))), (ad 3, .inl (ca 3, 367, .inl (x 3)))]) := hD.sub [0, 1, 2, 3, 4, 5] (by decide) rfl
    exact W.iret (v := 0) hx hb hr (fun t ht hW => ⟨⟨0, (), rfl, by rw [f_correction, e_1, f_correction_2, if_pos c_3], by rw [ht]; exact hP9, va_K.moved hW.alike (hK.sub [0, 1, 2, 3] rfl), hD9⟩, hS.F ht⟩) hS.2.2 d_Co_correction_17
  · refine lv_aload_n hx hb d_Co_correction_7 rfl (lv_at hl 0 rfl) ?_
    refine va_get (D := D) (ci := 4) (v := .ref (ad 2)) (C := R_Co) (T := T_Co) (N := 5) hx hb hu in_Co hown hK hP 0 rfl rfl 3 (by decide) (hu _ hw_127) (fun _ h9 => h9) rfl d_Co_correction_8 ?_
    refine lv_iload_n hx hb d_Co_correction_11 rfl (lv_at hl 1 rfl) ?_
    refine va_iald hx hb hK hP 4 2 rfl rfl (vq_hasr (by assumption) (by assumption)) d_Co_correction_12 ?_
    refine lv_goto (tgt := 17) hx hb d_Co_correction_13 (by decide) ?_
    have hP9 : va_P D vwCl ([(qc, k_Co qg ad), (qg, k_Sc g), (ad 0, .inl (ca 0, 367, .inl (x 0))), (ad 1, .inl (ca 1, 367, .inl (x 1))), (ad 2, .inl (ca 2, 367, .inl (x 2))), (ad 3, .inl (ca 3, 367, .inl (x 3)))]) H := hP.sub [0, 1, 2, 3, 4, 5] rfl
    have hD9 : va_D A ([(qc, k_Co qg ad), (qg, k_Sc g), (ad 0, .inl (ca 0, 367, .inl (x 0))), (ad 1, .inl (ca 1, 367, .inl (x 1))), (ad 2, .inl (ca 2, 367, .inl (x 2))), (ad 3, .inl (ca 3, 367, .inl (x 3)))]) := hD.sub [0, 1, 2, 3, 4, 5] (by decide) rfl
    exact W.iret (v := (x 2) (q).toNatClampNeg) hx hb hr (fun t ht hW => ⟨⟨(x 2) (q).toNatClampNeg, (), rfl, by rw [f_correction, e_1, f_correction_2, if_neg c_3], by rw [ht]; exact hP9, va_K.moved hW.alike (hK.sub [0, 1, 2, 3] rfl), hD9⟩, hS.F ht⟩) hS.2.2 d_Co_correction_17
def f_fold_5 (g : Nat → Int32) (x : Nat → Nat → Int32) (q : Int32) (v : Int32) (r_1 : Int32) (r_4 : Int32) : Int32 :=
  if r_4 = 0 then
    if 0 ≤ v then 2 * v
    else ((-2) * v) - 1
  else
    if 0 ≤ v then (2 * v) + 1
    else (-2) * (v + 1)
def f_fold_12 (g : Nat → Int32) (x : Nat → Nat → Int32) (q : Int32) (v : Int32) (r_1 : Int32) (r_9 : Int32) (r_11 : Int32) : Int32 := ((2 * (jabs v)) - r_9) - r_11
def f_fold_10 (g : Nat → Int32) (x : Nat → Nat → Int32) (q : Int32) (v : Int32) (r_1 : Int32) (r_9 : Int32) : Int32 := f_fold_12 g x q v r_1 r_9 (f_likeness q)
def f_fold_2 (g : Nat → Int32) (x : Nat → Nat → Int32) (q : Int32) (v : Int32) (r_1 : Int32) : Int32 :=
  if r_1 = 0 then f_fold_5 g x q v r_1 (f_leansBelow g x q)
  else f_fold_10 g x q v r_1 (f_turn g x q v)
def f_fold (g : Nat → Int32) (x : Nat → Nat → Int32) (q : Int32) (v : Int32) : Int32 := f_fold_2 g x q v (f_endsRun q)
set_option maxHeartbeats 4000000 in
set_option maxRecDepth 100000 in
theorem c_fold (l : Launch) (D : va_G) (sa : Nat → Nat) (sz : Nat) (qc : Nat) (qg : Nat) (ad : Nat → Nat) (ca : Nat → ClassId) (g : Nat → Int32) (x : Nat → Nat → Int32) (q : Int32) (v : Int32)  : Met l y_Co_fold w_Co_fold ({ frames := 4, cells := 0, slots := 0, locals := 87 }) (va_Pc [.ref qc, .int q, .int v] (vq_pre D sa [(qc, k_Co qg ad), (qg, k_Sc g), (ad 0, .inl (ca 0, 367, .inl (x 0))), (ad 1, .inl (ca 1, 367, .inl (x 1))), (ad 2, .inl (ca 2, 367, .inl (x 2))), (ad 3, .inl (ca 3, 367, .inl (x 3)))] [(ca 0, .int), (ca 1, .int), (ca 2, .int), (ca 3, .int)] sz)) (va_Qi (fun (r0 : Int32) (u : Unit) => f_fold g x q v = r0) (vq_B D (va_A [(qc, k_Co qg ad), (qg, k_Sc g), (ad 0, .inl (ca 0, 367, .inl (x 0))), (ad 1, .inl (ca 1, 367, .inl (x 1))), (ad 2, .inl (ca 2, 367, .inl (x 2))), (ad 3, .inl (ca 3, 367, .inl (x 3)))] sz) [(ca 0, .int), (ca 1, .int), (ca 2, .int), (ca 3, .int)] (fun (u : Unit) => [(qc, k_Co qg ad), (qg, k_Sc g), (ad 0, .inl (ca 0, 367, .inl (x 0))), (ad 1, .inl (ca 1, 367, .inl (x 1))), (ad 2, .inl (ca 2, 367, .inl (x 2))), (ad 3, .inl (ca 3, 367, .inl (x 3)))])) (va_A [(qc, k_Co qg ad), (qg, k_Sc g), (ad 0, .inl (ca 0, 367, .inl (x 0))), (ad 1, .inl (ca 1, 367, .inl (x 1))), (ad 2, .inl (ca 2, 367, .inl (x 2))), (ad 3, .inl (ca 3, 367, .inl (x 3)))] sz)) 0 0 (va_A [(qc, k_Co qg ad), (qg, k_Sc g), (ad 0, .inl (ca 0, 367, .inl (x 0))), (ad 1, .inl (ca 1, 367, .inl (x 1))), (ad 2, .inl (ca 2, 367, .inl (x 2))), (ad 3, .inl (ca 3, 367, .inl (x 3)))] sz) := by
  refine Met.ofW (cc := b_Co_fold) (maxL := 3) (ret := (some .int)) (by decide) rfl ?_
  intro p e s m args below meth c s₁ B hml hv
  obtain ⟨rfl, hsz, hP, hK, hD0, hE⟩ := hv
  have hx := B.exec
  have hb := B.bytes
  have hr := B.returns
  have hts := atoms_spec (ws := w_Co_fold) B.pre
  have hu : ∀ w9 ∈ vU, Cond.before w9 ([.ref qc, .int q, .int v]).toArray s = true := fun w9 h => hts w9 (List.mem_cons_of_mem _ h)
  have hown : s.vm.findClass R_Co = some m.cls := findClass_of_methodNamed B.named
  have hlocks := B.notSynchronized
  subst hsz
  have hD := hD0.self (sz := s.heap.size)
  generalize hAe : va_A [(qc, k_Co qg ad), (qg, k_Sc g), (ad 0, .inl (ca 0, 367, .inl (x 0))), (ad 1, .inl (ca 1, 367, .inl (x 1))), (ad 2, .inl (ca 2, 367, .inl (x 2))), (ad 3, .inl (ca 3, 367, .inl (x 3)))] s.heap.size = A at hD ⊢
  have hA : ∀ q : Nat, s.heap.size ≤ q → A q := fun q h => by rw [← hAe]; exact Or.inr h
  have hS : va_S A s.heap s.heap [] := va_S.rf
  have hP : va_P D vwCl [(qc, k_Co qg ad), (qg, k_Sc g), (ad 0, .inl (ca 0, 367, .inl (x 0))), (ad 1, .inl (ca 1, 367, .inl (x 1))), (ad 2, .inl (ca 2, 367, .inl (x 2))), (ad 3, .inl (ca 3, 367, .inl (x 3)))] s.heap := hP
  have hl := lv_entry ([.ref qc, .int q, .int v]) (n := 3) (Nat.le_of_ble_eq_true rfl)
  rw [lg_entry_eq]
  generalize (lg_sl ([.ref qc, .int q, .int v]) ++ List.replicate (3 - (lg_sl ([.ref qc, .int q, .int v])).length) Slot.unset).toArray = ls at hl ⊢
  have hl : lv_has ls 3 [(0, .ref qc), (1, .int q), (2, .int v)] := hl
  refine lv_iload_n hx hb d_Co_fold_0 rfl (lv_at hl 1 rfl) ?_
  refine vq_i (wr := [(qc, k_Co qg ad), (qg, k_Sc g), (ad 0, .inl (ca 0, 367, .inl (x 0))), (ad 1, .inl (ca 1, 367, .inl (x 1))), (ad 2, .inl (ca 2, 367, .inl (x 2))), (ad 3, .inl (ca 3, 367, .inl (x 3)))]) (va_runS (As := [.int q]) (rest := []) ⟨hx, hb, hml, hown, hts⟩ (c_endsRun l D sa s.heap.size q) (va_cwS 1 hts (vg_S (fun w h => List.mem_cons_of_mem _ h) hw_389 hw_390 hw_36 hw_391) rfl rfl rfl (by decide +kernel) ⟨Nat.le_of_ble_eq_true rfl, Nat.le_of_ble_eq_true rfl⟩) (vq_pS hE hK hP hD [] [] rfl (by decide) rfl) rfl rfl hl.1 rfl (lv_room (Nat.le_of_ble_eq_true rfl)) d_Co_fold_1 ⟨Nat.le_of_ble_eq_true rfl, Nat.le_of_ble_eq_true rfl⟩) hP hD hS hA [] [0, 1, 2, 3, 4, 5] rfl rfl (by decide) (by decide) (fun r_1 u_1 H locs e_1 hP hD hS => ?_)
  have hP : va_P D vwCl [(qc, k_Co qg ad), (qg, k_Sc g), (ad 0, .inl (ca 0, 367, .inl (x 0))), (ad 1, .inl (ca 1, 367, .inl (x 1))), (ad 2, .inl (ca 2, 367, .inl (x 2))), (ad 3, .inl (ca 3, 367, .inl (x 3)))] H := hP
  have hD : va_D A [(qc, k_Co qg ad), (qg, k_Sc g), (ad 0, .inl (ca 0, 367, .inl (x 0))), (ad 1, .inl (ca 1, 367, .inl (x 1))), (ad 2, .inl (ca 2, 367, .inl (x 2))), (ad 3, .inl (ca 3, 367, .inl (x 3)))] := hD
  refine lv_if_eq (tgt := 26) hx hb d_Co_fold_4 (by decide) (fun c_3 => ?_) (fun c_3 => ?_)
  · refine lv_aload_n hx hb d_Co_fold_26 rfl (lv_at hl 0 rfl) ?_
    refine lv_iload_n hx hb d_Co_fold_27 rfl (lv_at hl 1 rfl) ?_
    refine vq_i (wr := []) (va_runV (As := [.int q]) (rest := []) ⟨hx, hb, hml, hown, hts⟩ (c_leansBelow l D sa H.size qc qg ad ca g x q) (cwV 1 hts (vg_V (fun w h => List.mem_cons_of_mem _ h) hw_405 hw_406 hw_10 hw_36 hw_407) rfl rfl rfl (by decide +kernel) ⟨Nat.le_of_ble_eq_true rfl, Nat.le_of_ble_eq_true rfl⟩) (vq_pV hE hK hP hD [0, 1, 2, 3, 4, 5] [0, 1, 2, 3] rfl (by decide) rfl 4 0 rfl rfl rfl) rfl rfl hl.1 rfl (lv_room (Nat.le_of_ble_eq_true rfl)) d_Co_fold_28 ⟨Nat.le_of_ble_eq_true rfl, Nat.le_of_ble_eq_true rfl⟩) hP hD hS hA [0, 1, 2, 3, 4, 5] [] rfl rfl (by decide) (by decide) (fun r_4 u_4 H locs e_4 hP hD hS => ?_)
    have hP : va_P D vwCl [(qc, k_Co qg ad), (qg, k_Sc g), (ad 0, .inl (ca 0, 367, .inl (x 0))), (ad 1, .inl (ca 1, 367, .inl (x 1))), (ad 2, .inl (ca 2, 367, .inl (x 2))), (ad 3, .inl (ca 3, 367, .inl (x 3)))] H := hP
    have hD : va_D A [(qc, k_Co qg ad), (qg, k_Sc g), (ad 0, .inl (ca 0, 367, .inl (x 0))), (ad 1, .inl (ca 1, 367, .inl (x 1))), (ad 2, .inl (ca 2, 367, .inl (x 2))), (ad 3, .inl (ca 3, 367, .inl (x 3)))] := hD
    refine lv_if_eq (tgt := 53) hx hb d_Co_fold_31 (by decide) (fun c_6 => ?_) (fun c_6 => ?_)
    · refine lv_iload_n hx hb d_Co_fold_53 rfl (lv_at hl 2 rfl) ?_
      refine lv_if_ge (tgt := 66) hx hb d_Co_fold_54 (by decide) (fun c_7 => ?_) (fun c_7 => ?_)
      · refine lv_iconst (v := 2) hx hb d_Co_fold_66 (by decide) ?_
        refine lv_iload_n hx hb d_Co_fold_67 rfl (lv_at hl 2 rfl) ?_
        refine lv_imul hx hb d_Co_fold_68 ?_
        have hP9 : va_P D vwCl ([(qc, k_Co qg ad), (qg, k_Sc g), (ad 0, .inl (ca 0, 367, .inl (x 0))), (ad 1, .inl (ca 1, 367, .inl (x 1))), (ad 2, .inl (ca 2, 367, .inl (x 2))), (ad 3, .inl (ca 3, 367, .inl (x 3)))]) H := hP.sub [0, 1, 2, 3, 4, 5] rfl
        have hD9 : va_D A ([(qc, k_Co qg ad), (qg, k_Sc g), (ad 0, .inl (ca 0, 367, .inl (x 0))), (ad 1, .inl (ca 1, 367, .inl (x 1))), (ad 2, .inl (ca 2, 367, .inl (x 2))), (ad 3, .inl (ca 3, 367, .inl (x 3)))]) := hD.sub [0, 1, 2, 3, 4, 5] (by decide) rfl
        exact W.iret (v := 2 * v) hx hb hr (fun t ht hW => ⟨⟨2 * v, (), rfl, by rw [f_fold, e_1, f_fold_2, if_pos c_3, e_4, f_fold_5, if_pos c_6, if_pos c_7], by rw [ht]; exact hP9, va_K.moved hW.alike (hK.sub [0, 1, 2, 3] rfl), hD9⟩, hS.F ht⟩) hS.2.2 d_Co_fold_69
      · refine lv_bipush (v := -2) hx hb d_Co_fold_57 (by decide) ?_
        refine lv_iload_n hx hb d_Co_fold_59 rfl (lv_at hl 2 rfl) ?_
        refine lv_imul hx hb d_Co_fold_60 ?_
        refine lv_iconst (v := 1) hx hb d_Co_fold_61 (by decide) ?_
        refine lv_isub hx hb d_Co_fold_62 ?_
        refine lv_goto (tgt := 69) hx hb d_Co_fold_63 (by decide) ?_
        have hP9 : va_P D vwCl ([(qc, k_Co qg ad), (qg, k_Sc g), (ad 0, .inl (ca 0, 367, .inl (x 0))), (ad 1, .inl (ca 1, 367, .inl (x 1))), (ad 2, .inl (ca 2, 367, .inl (x 2))), (ad 3, .inl (ca 3, 367, .inl (x 3)))]) H := hP.sub [0, 1, 2, 3, 4, 5] rfl
        have hD9 : va_D A ([(qc, k_Co qg ad), (qg, k_Sc g), (ad 0, .inl (ca 0, 367, .inl (x 0))), (ad 1, .inl (ca 1, 367, .inl (x 1))), (ad 2, .inl (ca 2, 367, .inl (x 2))), (ad 3, .inl (ca 3, 367, .inl (x 3)))]) := hD.sub [0, 1, 2, 3, 4, 5] (by decide) rfl
        exact W.iret (v := ((-2) * v) - 1) hx hb hr (fun t ht hW => ⟨⟨((-2) * v) - 1, (), rfl, by rw [f_fold, e_1, f_fold_2, if_pos c_3, e_4, f_fold_5, if_pos c_6, if_neg c_7], by rw [ht]; exact hP9, va_K.moved hW.alike (hK.sub [0, 1, 2, 3] rfl), hD9⟩, hS.F ht⟩) hS.2.2 d_Co_fold_69
    · refine lv_iload_n hx hb d_Co_fold_34 rfl (lv_at hl 2 rfl) ?_
      refine lv_if_ge (tgt := 47) hx hb d_Co_fold_35 (by decide) (fun c_8 => ?_) (fun c_8 => ?_)
      · refine lv_iconst (v := 2) hx hb d_Co_fold_47 (by decide) ?_
        refine lv_iload_n hx hb d_Co_fold_48 rfl (lv_at hl 2 rfl) ?_
        refine lv_imul hx hb d_Co_fold_49 ?_
        refine lv_iconst (v := 1) hx hb d_Co_fold_50 (by decide) ?_
        refine lv_iadd hx hb d_Co_fold_51 ?_
        have hP9 : va_P D vwCl ([(qc, k_Co qg ad), (qg, k_Sc g), (ad 0, .inl (ca 0, 367, .inl (x 0))), (ad 1, .inl (ca 1, 367, .inl (x 1))), (ad 2, .inl (ca 2, 367, .inl (x 2))), (ad 3, .inl (ca 3, 367, .inl (x 3)))]) H := hP.sub [0, 1, 2, 3, 4, 5] rfl
        have hD9 : va_D A ([(qc, k_Co qg ad), (qg, k_Sc g), (ad 0, .inl (ca 0, 367, .inl (x 0))), (ad 1, .inl (ca 1, 367, .inl (x 1))), (ad 2, .inl (ca 2, 367, .inl (x 2))), (ad 3, .inl (ca 3, 367, .inl (x 3)))]) := hD.sub [0, 1, 2, 3, 4, 5] (by decide) rfl
        exact W.iret (v := (2 * v) + 1) hx hb hr (fun t ht hW => ⟨⟨(2 * v) + 1, (), rfl, by rw [f_fold, e_1, f_fold_2, if_pos c_3, e_4, f_fold_5, if_neg c_6, if_pos c_8], by rw [ht]; exact hP9, va_K.moved hW.alike (hK.sub [0, 1, 2, 3] rfl), hD9⟩, hS.F ht⟩) hS.2.2 d_Co_fold_52
      · refine lv_bipush (v := -2) hx hb d_Co_fold_38 (by decide) ?_
        refine lv_iload_n hx hb d_Co_fold_40 rfl (lv_at hl 2 rfl) ?_
        refine lv_iconst (v := 1) hx hb d_Co_fold_41 (by decide) ?_
        refine lv_iadd hx hb d_Co_fold_42 ?_
        refine lv_imul hx hb d_Co_fold_43 ?_
        refine lv_goto (tgt := 52) hx hb d_Co_fold_44 (by decide) ?_
        have hP9 : va_P D vwCl ([(qc, k_Co qg ad), (qg, k_Sc g), (ad 0, .inl (ca 0, 367, .inl (x 0))), (ad 1, .inl (ca 1, 367, .inl (x 1))), (ad 2, .inl (ca 2, 367, .inl (x 2))), (ad 3, .inl (ca 3, 367, .inl (x 3)))]) H := hP.sub [0, 1, 2, 3, 4, 5] rfl
        have hD9 : va_D A ([(qc, k_Co qg ad), (qg, k_Sc g), (ad 0, .inl (ca 0, 367, .inl (x 0))), (ad 1, .inl (ca 1, 367, .inl (x 1))), (ad 2, .inl (ca 2, 367, .inl (x 2))), (ad 3, .inl (ca 3, 367, .inl (x 3)))]) := hD.sub [0, 1, 2, 3, 4, 5] (by decide) rfl
        exact W.iret (v := (-2) * (v + 1)) hx hb hr (fun t ht hW => ⟨⟨(-2) * (v + 1), (), rfl, by rw [f_fold, e_1, f_fold_2, if_pos c_3, e_4, f_fold_5, if_neg c_6, if_neg c_8], by rw [ht]; exact hP9, va_K.moved hW.alike (hK.sub [0, 1, 2, 3] rfl), hD9⟩, hS.F ht⟩) hS.2.2 d_Co_fold_52
  · refine lv_iconst (v := 2) hx hb d_Co_fold_7 (by decide) ?_
    refine lv_iload_n hx hb d_Co_fold_8 rfl (lv_at hl 2 rfl) ?_
    refine va_mabs hx hb (hml.trans hl.1.symm) hown (hu _ hw_392) (hu _ hw_333) (hu _ hw_33) (hu _ hw_334) (Nat.le_of_ble_eq_true rfl) (Nat.le_of_ble_eq_true rfl) (Nat.le_of_ble_eq_true rfl) (Nat.le_of_ble_eq_true rfl) d_Co_fold_9 ?_
    refine W.eq (g2 := F0 m 12 ls [.int (jabs v), .int 2]) rfl ?_
    refine lv_imul hx hb d_Co_fold_12 ?_
    refine lv_aload_n hx hb d_Co_fold_13 rfl (lv_at hl 0 rfl) ?_
    refine lv_iload_n hx hb d_Co_fold_14 rfl (lv_at hl 1 rfl) ?_
    refine lv_iload_n hx hb d_Co_fold_15 rfl (lv_at hl 2 rfl) ?_
    refine vq_i (wr := []) (va_runV (As := [.int q, .int v]) (rest := [.int (2 * (jabs v))]) ⟨hx, hb, hml, hown, hts⟩ (c_turn l D sa H.size qc qg ad ca g x q v) (cwV 2 hts (vg_V (fun w h => List.mem_cons_of_mem _ h) hw_393 hw_394 hw_7 hw_36 hw_395) rfl rfl rfl (by decide +kernel) ⟨Nat.le_of_ble_eq_true rfl, Nat.le_of_ble_eq_true rfl⟩) (vq_pV hE hK hP hD [0, 1, 2, 3, 4, 5] [0, 1, 2, 3] rfl (by decide) rfl 4 0 rfl rfl rfl) rfl rfl hl.1 rfl (lv_room (Nat.le_of_ble_eq_true rfl)) d_Co_fold_16 ⟨Nat.le_of_ble_eq_true rfl, Nat.le_of_ble_eq_true rfl⟩) hP hD hS hA [0, 1, 2, 3, 4, 5] [] rfl rfl (by decide) (by decide) (fun r_9 u_9 H locs e_9 hP hD hS => ?_)
    have hP : va_P D vwCl [(qc, k_Co qg ad), (qg, k_Sc g), (ad 0, .inl (ca 0, 367, .inl (x 0))), (ad 1, .inl (ca 1, 367, .inl (x 1))), (ad 2, .inl (ca 2, 367, .inl (x 2))), (ad 3, .inl (ca 3, 367, .inl (x 3)))] H := hP
    have hD : va_D A [(qc, k_Co qg ad), (qg, k_Sc g), (ad 0, .inl (ca 0, 367, .inl (x 0))), (ad 1, .inl (ca 1, 367, .inl (x 1))), (ad 2, .inl (ca 2, 367, .inl (x 2))), (ad 3, .inl (ca 3, 367, .inl (x 3)))] := hD
    refine lv_isub hx hb d_Co_fold_19 ?_
    refine lv_iload_n hx hb d_Co_fold_20 rfl (lv_at hl 1 rfl) ?_
    refine vq_i (wr := [(qc, k_Co qg ad), (qg, k_Sc g), (ad 0, .inl (ca 0, 367, .inl (x 0))), (ad 1, .inl (ca 1, 367, .inl (x 1))), (ad 2, .inl (ca 2, 367, .inl (x 2))), (ad 3, .inl (ca 3, 367, .inl (x 3)))]) (va_runS (As := [.int q]) (rest := [.int ((2 * (jabs v)) - r_9)]) ⟨hx, hb, hml, hown, hts⟩ (c_likeness l D sa H.size q) (va_cwS 1 hts (vg_S (fun w h => List.mem_cons_of_mem _ h) hw_402 hw_403 hw_36 hw_404) rfl rfl rfl (by decide +kernel) ⟨Nat.le_of_ble_eq_true rfl, Nat.le_of_ble_eq_true rfl⟩) (vq_pS hE hK hP hD [] [] rfl (by decide) rfl) rfl rfl hl.1 rfl (lv_room (Nat.le_of_ble_eq_true rfl)) d_Co_fold_21 ⟨Nat.le_of_ble_eq_true rfl, Nat.le_of_ble_eq_true rfl⟩) hP hD hS hA [] [0, 1, 2, 3, 4, 5] rfl rfl (by decide) (by decide) (fun r_11 u_11 H locs e_11 hP hD hS => ?_)
    have hP : va_P D vwCl [(qc, k_Co qg ad), (qg, k_Sc g), (ad 0, .inl (ca 0, 367, .inl (x 0))), (ad 1, .inl (ca 1, 367, .inl (x 1))), (ad 2, .inl (ca 2, 367, .inl (x 2))), (ad 3, .inl (ca 3, 367, .inl (x 3)))] H := hP
    have hD : va_D A [(qc, k_Co qg ad), (qg, k_Sc g), (ad 0, .inl (ca 0, 367, .inl (x 0))), (ad 1, .inl (ca 1, 367, .inl (x 1))), (ad 2, .inl (ca 2, 367, .inl (x 2))), (ad 3, .inl (ca 3, 367, .inl (x 3)))] := hD
    refine lv_isub hx hb d_Co_fold_24 ?_
    have hP9 : va_P D vwCl ([(qc, k_Co qg ad), (qg, k_Sc g), (ad 0, .inl (ca 0, 367, .inl (x 0))), (ad 1, .inl (ca 1, 367, .inl (x 1))), (ad 2, .inl (ca 2, 367, .inl (x 2))), (ad 3, .inl (ca 3, 367, .inl (x 3)))]) H := hP.sub [0, 1, 2, 3, 4, 5] rfl
    have hD9 : va_D A ([(qc, k_Co qg ad), (qg, k_Sc g), (ad 0, .inl (ca 0, 367, .inl (x 0))), (ad 1, .inl (ca 1, 367, .inl (x 1))), (ad 2, .inl (ca 2, 367, .inl (x 2))), (ad 3, .inl (ca 3, 367, .inl (x 3)))]) := hD.sub [0, 1, 2, 3, 4, 5] (by decide) rfl
    exact W.iret (v := ((2 * (jabs v)) - r_9) - r_11) hx hb hr (fun t ht hW => ⟨⟨((2 * (jabs v)) - r_9) - r_11, (), rfl, by rw [f_fold, e_1, f_fold_2, if_neg c_3, e_9, f_fold_10, e_11, f_fold_12], by rw [ht]; exact hP9, va_K.moved hW.alike (hK.sub [0, 1, 2, 3] rfl), hD9⟩, hS.F ht⟩) hS.2.2 d_Co_fold_25
def f_unfoldEnd_5 (g : Nat → Int32) (x : Nat → Nat → Int32) (q : Int32) (v : Int32) (r_1 : Int32) (r_4 : Int32) : Int32 :=
  if 0 = r_4 then ((v + r_1) + 1) / 2
  else -(((v + r_1) + 1) / 2)
def f_unfoldEnd_8 (g : Nat → Int32) (x : Nat → Nat → Int32) (q : Int32) (v : Int32) (r_1 : Int32) (r_7 : Int32) : Int32 :=
  if 1 = r_7 then ((v + r_1) + 1) / 2
  else -(((v + r_1) + 1) / 2)
def f_unfoldEnd_2 (g : Nat → Int32) (x : Nat → Nat → Int32) (q : Int32) (v : Int32) (r_1 : Int32) : Int32 :=
  if ((v + r_1) - (v + r_1) / 2 * 2) = 0 then f_unfoldEnd_5 g x q v r_1 (f_turnsAbove g x q)
  else f_unfoldEnd_8 g x q v r_1 (f_turnsAbove g x q)
def f_unfoldEnd (g : Nat → Int32) (x : Nat → Nat → Int32) (q : Int32) (v : Int32) : Int32 := f_unfoldEnd_2 g x q v (f_likeness q)
set_option maxHeartbeats 4000000 in
set_option maxRecDepth 100000 in
theorem c_unfoldEnd (l : Launch) (D : va_G) (sa : Nat → Nat) (sz : Nat) (qc : Nat) (qg : Nat) (ad : Nat → Nat) (ca : Nat → ClassId) (g : Nat → Int32) (x : Nat → Nat → Int32) (q : Int32) (v : Int32)  : Met l y_Co_unfoldEnd w_Co_unfoldEnd ({ frames := 3, cells := 0, slots := 0, locals := 64 }) (va_Pc [.ref qc, .int q, .int v] (vq_pre D sa [(qc, k_Co qg ad), (qg, k_Sc g), (ad 0, .inl (ca 0, 367, .inl (x 0))), (ad 1, .inl (ca 1, 367, .inl (x 1))), (ad 2, .inl (ca 2, 367, .inl (x 2))), (ad 3, .inl (ca 3, 367, .inl (x 3)))] [(ca 0, .int), (ca 1, .int), (ca 2, .int), (ca 3, .int)] sz)) (va_Qi (fun (r0 : Int32) (u : Unit) => f_unfoldEnd g x q v = r0) (vq_B D (va_A [(qc, k_Co qg ad), (qg, k_Sc g), (ad 0, .inl (ca 0, 367, .inl (x 0))), (ad 1, .inl (ca 1, 367, .inl (x 1))), (ad 2, .inl (ca 2, 367, .inl (x 2))), (ad 3, .inl (ca 3, 367, .inl (x 3)))] sz) [(ca 0, .int), (ca 1, .int), (ca 2, .int), (ca 3, .int)] (fun (u : Unit) => [(qc, k_Co qg ad), (qg, k_Sc g), (ad 0, .inl (ca 0, 367, .inl (x 0))), (ad 1, .inl (ca 1, 367, .inl (x 1))), (ad 2, .inl (ca 2, 367, .inl (x 2))), (ad 3, .inl (ca 3, 367, .inl (x 3)))])) (va_A [(qc, k_Co qg ad), (qg, k_Sc g), (ad 0, .inl (ca 0, 367, .inl (x 0))), (ad 1, .inl (ca 1, 367, .inl (x 1))), (ad 2, .inl (ca 2, 367, .inl (x 2))), (ad 3, .inl (ca 3, 367, .inl (x 3)))] sz)) 0 0 (va_A [(qc, k_Co qg ad), (qg, k_Sc g), (ad 0, .inl (ca 0, 367, .inl (x 0))), (ad 1, .inl (ca 1, 367, .inl (x 1))), (ad 2, .inl (ca 2, 367, .inl (x 2))), (ad 3, .inl (ca 3, 367, .inl (x 3)))] sz) := by
  refine Met.ofW (cc := b_Co_unfoldEnd) (maxL := 6) (ret := (some .int)) (by decide) rfl ?_
  intro p e s m args below meth c s₁ B hml hv
  obtain ⟨rfl, hsz, hP, hK, hD0, hE⟩ := hv
  have hx := B.exec
  have hb := B.bytes
  have hr := B.returns
  have hts := atoms_spec (ws := w_Co_unfoldEnd) B.pre
  have hu : ∀ w9 ∈ vU, Cond.before w9 ([.ref qc, .int q, .int v]).toArray s = true := fun w9 h => hts w9 (List.mem_cons_of_mem _ h)
  have hown : s.vm.findClass R_Co = some m.cls := findClass_of_methodNamed B.named
  have hlocks := B.notSynchronized
  subst hsz
  have hD := hD0.self (sz := s.heap.size)
  generalize hAe : va_A [(qc, k_Co qg ad), (qg, k_Sc g), (ad 0, .inl (ca 0, 367, .inl (x 0))), (ad 1, .inl (ca 1, 367, .inl (x 1))), (ad 2, .inl (ca 2, 367, .inl (x 2))), (ad 3, .inl (ca 3, 367, .inl (x 3)))] s.heap.size = A at hD ⊢
  have hA : ∀ q : Nat, s.heap.size ≤ q → A q := fun q h => by rw [← hAe]; exact Or.inr h
  have hS : va_S A s.heap s.heap [] := va_S.rf
  have hP : va_P D vwCl [(qc, k_Co qg ad), (qg, k_Sc g), (ad 0, .inl (ca 0, 367, .inl (x 0))), (ad 1, .inl (ca 1, 367, .inl (x 1))), (ad 2, .inl (ca 2, 367, .inl (x 2))), (ad 3, .inl (ca 3, 367, .inl (x 3)))] s.heap := hP
  have hl := lv_entry ([.ref qc, .int q, .int v]) (n := 6) (Nat.le_of_ble_eq_true rfl)
  rw [lg_entry_eq]
  generalize (lg_sl ([.ref qc, .int q, .int v]) ++ List.replicate (6 - (lg_sl ([.ref qc, .int q, .int v])).length) Slot.unset).toArray = ls at hl ⊢
  have hl : lv_has ls 6 [(0, .ref qc), (1, .int q), (2, .int v)] := hl
  refine lv_iload_n hx hb d_Co_unfoldEnd_0 rfl (lv_at hl 2 rfl) ?_
  refine lv_iload_n hx hb d_Co_unfoldEnd_1 rfl (lv_at hl 1 rfl) ?_
  refine vq_i (wr := [(qc, k_Co qg ad), (qg, k_Sc g), (ad 0, .inl (ca 0, 367, .inl (x 0))), (ad 1, .inl (ca 1, 367, .inl (x 1))), (ad 2, .inl (ca 2, 367, .inl (x 2))), (ad 3, .inl (ca 3, 367, .inl (x 3)))]) (va_runS (As := [.int q]) (rest := [.int v]) ⟨hx, hb, hml, hown, hts⟩ (c_likeness l D sa s.heap.size q) (va_cwS 1 hts (vg_S (fun w h => List.mem_cons_of_mem _ h) hw_402 hw_403 hw_36 hw_404) rfl rfl rfl (by decide +kernel) ⟨Nat.le_of_ble_eq_true rfl, Nat.le_of_ble_eq_true rfl⟩) (vq_pS hE hK hP hD [] [] rfl (by decide) rfl) rfl rfl hl.1 rfl (lv_room (Nat.le_of_ble_eq_true rfl)) d_Co_unfoldEnd_2 ⟨Nat.le_of_ble_eq_true rfl, Nat.le_of_ble_eq_true rfl⟩) hP hD hS hA [] [0, 1, 2, 3, 4, 5] rfl rfl (by decide) (by decide) (fun r_1 u_1 H locs e_1 hP hD hS => ?_)
  have hP : va_P D vwCl [(qc, k_Co qg ad), (qg, k_Sc g), (ad 0, .inl (ca 0, 367, .inl (x 0))), (ad 1, .inl (ca 1, 367, .inl (x 1))), (ad 2, .inl (ca 2, 367, .inl (x 2))), (ad 3, .inl (ca 3, 367, .inl (x 3)))] H := hP
  have hD : va_D A [(qc, k_Co qg ad), (qg, k_Sc g), (ad 0, .inl (ca 0, 367, .inl (x 0))), (ad 1, .inl (ca 1, 367, .inl (x 1))), (ad 2, .inl (ca 2, 367, .inl (x 2))), (ad 3, .inl (ca 3, 367, .inl (x 3)))] := hD
  refine lv_iadd hx hb d_Co_unfoldEnd_5 ?_
  refine lv_istore_n (lv' := [(3, .int (v + r_1)), (0, .ref qc), (1, .int q), (2, .int v)]) hx hb d_Co_unfoldEnd_6 rfl hl (by decide) rfl (fun ls hl => ?_)
  refine lv_iload_n hx hb d_Co_unfoldEnd_7 rfl (lv_at hl 0 rfl) ?_
  refine lv_iconst (v := 2) hx hb d_Co_unfoldEnd_8 (by decide) ?_
  refine lv_irem hx hb d_Co_unfoldEnd_9 (by decide) ?_
  refine lv_if_eq (tgt := 17) hx hb d_Co_unfoldEnd_10 (by decide) (fun c_3 => ?_) (fun c_3 => ?_)
  · refine lv_iconst (v := 0) hx hb d_Co_unfoldEnd_17 (by decide) ?_
    refine lv_istore (lv' := [(4, .int 0), (3, .int (v + r_1)), (0, .ref qc), (1, .int q), (2, .int v)]) hx hb d_Co_unfoldEnd_18 hl (by decide) rfl (fun ls hl => ?_)
    refine lv_iload_n hx hb d_Co_unfoldEnd_20 rfl (lv_at hl 1 rfl) ?_
    refine lv_iconst (v := 1) hx hb d_Co_unfoldEnd_21 (by decide) ?_
    refine lv_iadd hx hb d_Co_unfoldEnd_22 ?_
    refine lv_iconst (v := 2) hx hb d_Co_unfoldEnd_23 (by decide) ?_
    refine lv_idiv hx hb d_Co_unfoldEnd_24 (by decide) ?_
    refine lv_istore (lv' := [(5, .int (((v + r_1) + 1) / 2)), (4, .int 0), (3, .int (v + r_1)), (0, .ref qc), (1, .int q), (2, .int v)]) hx hb d_Co_unfoldEnd_25 hl (by decide) rfl (fun ls hl => ?_)
    refine lv_iload hx hb d_Co_unfoldEnd_27 (lv_at hl 1 rfl) ?_
    refine lv_aload_n hx hb d_Co_unfoldEnd_29 rfl (lv_at hl 3 rfl) ?_
    refine lv_iload_n hx hb d_Co_unfoldEnd_30 rfl (lv_at hl 4 rfl) ?_
    refine vq_i (wr := []) (va_runV (As := [.int q]) (rest := [.int 0]) ⟨hx, hb, hml, hown, hts⟩ (c_turnsAbove l D sa H.size qc qg ad ca g x q) (cwV 1 hts (vg_V (fun w h => List.mem_cons_of_mem _ h) hw_396 hw_397 hw_8 hw_36 hw_398) rfl rfl rfl (by decide +kernel) ⟨Nat.le_of_ble_eq_true rfl, Nat.le_of_ble_eq_true rfl⟩) (vq_pV hE hK hP hD [0, 1, 2, 3, 4, 5] [0, 1, 2, 3] rfl (by decide) rfl 4 0 rfl rfl rfl) rfl rfl hl.1 rfl (lv_room (Nat.le_of_ble_eq_true rfl)) d_Co_unfoldEnd_31 ⟨Nat.le_of_ble_eq_true rfl, Nat.le_of_ble_eq_true rfl⟩) hP hD hS hA [0, 1, 2, 3, 4, 5] [] rfl rfl (by decide) (by decide) (fun r_4 u_4 H locs e_4 hP hD hS => ?_)
    have hP : va_P D vwCl [(qc, k_Co qg ad), (qg, k_Sc g), (ad 0, .inl (ca 0, 367, .inl (x 0))), (ad 1, .inl (ca 1, 367, .inl (x 1))), (ad 2, .inl (ca 2, 367, .inl (x 2))), (ad 3, .inl (ca 3, 367, .inl (x 3)))] H := hP
    have hD : va_D A [(qc, k_Co qg ad), (qg, k_Sc g), (ad 0, .inl (ca 0, 367, .inl (x 0))), (ad 1, .inl (ca 1, 367, .inl (x 1))), (ad 2, .inl (ca 2, 367, .inl (x 2))), (ad 3, .inl (ca 3, 367, .inl (x 3)))] := hD
    refine lv_icmp_ne (tgt := 42) hx hb d_Co_unfoldEnd_34 (by decide) (fun c_6 => ?_) (fun c_6 => ?_)
    · refine lv_iload hx hb d_Co_unfoldEnd_42 (lv_at hl 0 rfl) ?_
      refine lv_ineg hx hb d_Co_unfoldEnd_44 ?_
      have hP9 : va_P D vwCl ([(qc, k_Co qg ad), (qg, k_Sc g), (ad 0, .inl (ca 0, 367, .inl (x 0))), (ad 1, .inl (ca 1, 367, .inl (x 1))), (ad 2, .inl (ca 2, 367, .inl (x 2))), (ad 3, .inl (ca 3, 367, .inl (x 3)))]) H := hP.sub [0, 1, 2, 3, 4, 5] rfl
      have hD9 : va_D A ([(qc, k_Co qg ad), (qg, k_Sc g), (ad 0, .inl (ca 0, 367, .inl (x 0))), (ad 1, .inl (ca 1, 367, .inl (x 1))), (ad 2, .inl (ca 2, 367, .inl (x 2))), (ad 3, .inl (ca 3, 367, .inl (x 3)))]) := hD.sub [0, 1, 2, 3, 4, 5] (by decide) rfl
      exact W.iret (v := -(((v + r_1) + 1) / 2)) hx hb hr (fun t ht hW => ⟨⟨-(((v + r_1) + 1) / 2), (), rfl, by rw [f_unfoldEnd, e_1, f_unfoldEnd_2, if_pos c_3, e_4, f_unfoldEnd_5, if_neg c_6], by rw [ht]; exact hP9, va_K.moved hW.alike (hK.sub [0, 1, 2, 3] rfl), hD9⟩, hS.F ht⟩) hS.2.2 d_Co_unfoldEnd_45
    · refine lv_iload hx hb d_Co_unfoldEnd_37 (lv_at hl 0 rfl) ?_
      refine lv_goto (tgt := 45) hx hb d_Co_unfoldEnd_39 (by decide) ?_
      have hP9 : va_P D vwCl ([(qc, k_Co qg ad), (qg, k_Sc g), (ad 0, .inl (ca 0, 367, .inl (x 0))), (ad 1, .inl (ca 1, 367, .inl (x 1))), (ad 2, .inl (ca 2, 367, .inl (x 2))), (ad 3, .inl (ca 3, 367, .inl (x 3)))]) H := hP.sub [0, 1, 2, 3, 4, 5] rfl
      have hD9 : va_D A ([(qc, k_Co qg ad), (qg, k_Sc g), (ad 0, .inl (ca 0, 367, .inl (x 0))), (ad 1, .inl (ca 1, 367, .inl (x 1))), (ad 2, .inl (ca 2, 367, .inl (x 2))), (ad 3, .inl (ca 3, 367, .inl (x 3)))]) := hD.sub [0, 1, 2, 3, 4, 5] (by decide) rfl
      exact W.iret (v := ((v + r_1) + 1) / 2) hx hb hr (fun t ht hW => ⟨⟨((v + r_1) + 1) / 2, (), rfl, by rw [f_unfoldEnd, e_1, f_unfoldEnd_2, if_pos c_3, e_4, f_unfoldEnd_5, if_pos c_6], by rw [ht]; exact hP9, va_K.moved hW.alike (hK.sub [0, 1, 2, 3] rfl), hD9⟩, hS.F ht⟩) hS.2.2 d_Co_unfoldEnd_45
  · refine lv_iconst (v := 1) hx hb d_Co_unfoldEnd_13 (by decide) ?_
    refine lv_goto (tgt := 18) hx hb d_Co_unfoldEnd_14 (by decide) ?_
    refine lv_istore (lv' := [(4, .int 1), (3, .int (v + r_1)), (0, .ref qc), (1, .int q), (2, .int v)]) hx hb d_Co_unfoldEnd_18 hl (by decide) rfl (fun ls hl => ?_)
    refine lv_iload_n hx hb d_Co_unfoldEnd_20 rfl (lv_at hl 1 rfl) ?_
    refine lv_iconst (v := 1) hx hb d_Co_unfoldEnd_21 (by decide) ?_
    refine lv_iadd hx hb d_Co_unfoldEnd_22 ?_
    refine lv_iconst (v := 2) hx hb d_Co_unfoldEnd_23 (by decide) ?_
    refine lv_idiv hx hb d_Co_unfoldEnd_24 (by decide) ?_
    refine lv_istore (lv' := [(5, .int (((v + r_1) + 1) / 2)), (4, .int 1), (3, .int (v + r_1)), (0, .ref qc), (1, .int q), (2, .int v)]) hx hb d_Co_unfoldEnd_25 hl (by decide) rfl (fun ls hl => ?_)
    refine lv_iload hx hb d_Co_unfoldEnd_27 (lv_at hl 1 rfl) ?_
    refine lv_aload_n hx hb d_Co_unfoldEnd_29 rfl (lv_at hl 3 rfl) ?_
    refine lv_iload_n hx hb d_Co_unfoldEnd_30 rfl (lv_at hl 4 rfl) ?_
    refine vq_i (wr := []) (va_runV (As := [.int q]) (rest := [.int 1]) ⟨hx, hb, hml, hown, hts⟩ (c_turnsAbove l D sa H.size qc qg ad ca g x q) (cwV 1 hts (vg_V (fun w h => List.mem_cons_of_mem _ h) hw_396 hw_397 hw_8 hw_36 hw_398) rfl rfl rfl (by decide +kernel) ⟨Nat.le_of_ble_eq_true rfl, Nat.le_of_ble_eq_true rfl⟩) (vq_pV hE hK hP hD [0, 1, 2, 3, 4, 5] [0, 1, 2, 3] rfl (by decide) rfl 4 0 rfl rfl rfl) rfl rfl hl.1 rfl (lv_room (Nat.le_of_ble_eq_true rfl)) d_Co_unfoldEnd_31 ⟨Nat.le_of_ble_eq_true rfl, Nat.le_of_ble_eq_true rfl⟩) hP hD hS hA [0, 1, 2, 3, 4, 5] [] rfl rfl (by decide) (by decide) (fun r_7 u_7 H locs e_7 hP hD hS => ?_)
    have hP : va_P D vwCl [(qc, k_Co qg ad), (qg, k_Sc g), (ad 0, .inl (ca 0, 367, .inl (x 0))), (ad 1, .inl (ca 1, 367, .inl (x 1))), (ad 2, .inl (ca 2, 367, .inl (x 2))), (ad 3, .inl (ca 3, 367, .inl (x 3)))] H := hP
    have hD : va_D A [(qc, k_Co qg ad), (qg, k_Sc g), (ad 0, .inl (ca 0, 367, .inl (x 0))), (ad 1, .inl (ca 1, 367, .inl (x 1))), (ad 2, .inl (ca 2, 367, .inl (x 2))), (ad 3, .inl (ca 3, 367, .inl (x 3)))] := hD
    refine lv_icmp_ne (tgt := 42) hx hb d_Co_unfoldEnd_34 (by decide) (fun c_9 => ?_) (fun c_9 => ?_)
    · refine lv_iload hx hb d_Co_unfoldEnd_42 (lv_at hl 0 rfl) ?_
      refine lv_ineg hx hb d_Co_unfoldEnd_44 ?_
      have hP9 : va_P D vwCl ([(qc, k_Co qg ad), (qg, k_Sc g), (ad 0, .inl (ca 0, 367, .inl (x 0))), (ad 1, .inl (ca 1, 367, .inl (x 1))), (ad 2, .inl (ca 2, 367, .inl (x 2))), (ad 3, .inl (ca 3, 367, .inl (x 3)))]) H := hP.sub [0, 1, 2, 3, 4, 5] rfl
      have hD9 : va_D A ([(qc, k_Co qg ad), (qg, k_Sc g), (ad 0, .inl (ca 0, 367, .inl (x 0))), (ad 1, .inl (ca 1, 367, .inl (x 1))), (ad 2, .inl (ca 2, 367, .inl (x 2))), (ad 3, .inl (ca 3, 367, .inl (x 3)))]) := hD.sub [0, 1, 2, 3, 4, 5] (by decide) rfl
      exact W.iret (v := -(((v + r_1) + 1) / 2)) hx hb hr (fun t ht hW => ⟨⟨-(((v + r_1) + 1) / 2), (), rfl, by rw [f_unfoldEnd, e_1, f_unfoldEnd_2, if_neg c_3, e_7, f_unfoldEnd_8, if_neg c_9], by rw [ht]; exact hP9, va_K.moved hW.alike (hK.sub [0, 1, 2, 3] rfl), hD9⟩, hS.F ht⟩) hS.2.2 d_Co_unfoldEnd_45
    · refine lv_iload hx hb d_Co_unfoldEnd_37 (lv_at hl 0 rfl) ?_
      refine lv_goto (tgt := 45) hx hb d_Co_unfoldEnd_39 (by decide) ?_
      have hP9 : va_P D vwCl ([(qc, k_Co qg ad), (qg, k_Sc g), (ad 0, .inl (ca 0, 367, .inl (x 0))), (ad 1, .inl (ca 1, 367, .inl (x 1))), (ad 2, .inl (ca 2, 367, .inl (x 2))), (ad 3, .inl (ca 3, 367, .inl (x 3)))]) H := hP.sub [0, 1, 2, 3, 4, 5] rfl
      have hD9 : va_D A ([(qc, k_Co qg ad), (qg, k_Sc g), (ad 0, .inl (ca 0, 367, .inl (x 0))), (ad 1, .inl (ca 1, 367, .inl (x 1))), (ad 2, .inl (ca 2, 367, .inl (x 2))), (ad 3, .inl (ca 3, 367, .inl (x 3)))]) := hD.sub [0, 1, 2, 3, 4, 5] (by decide) rfl
      exact W.iret (v := ((v + r_1) + 1) / 2) hx hb hr (fun t ht hW => ⟨⟨((v + r_1) + 1) / 2, (), rfl, by rw [f_unfoldEnd, e_1, f_unfoldEnd_2, if_neg c_3, e_7, f_unfoldEnd_8, if_pos c_9], by rw [ht]; exact hP9, va_K.moved hW.alike (hK.sub [0, 1, 2, 3] rfl), hD9⟩, hS.F ht⟩) hS.2.2 d_Co_unfoldEnd_45
def f_unfold_6 (g : Nat → Int32) (x : Nat → Nat → Int32) (q : Int32) (v : Int32) (r_1 : Int32) (r_5 : Int32) : Int32 :=
  if 0 = r_5 then v / 2
  else (-(v / 2)) - 1
def f_unfold_9 (g : Nat → Int32) (x : Nat → Nat → Int32) (q : Int32) (v : Int32) (r_1 : Int32) (r_8 : Int32) : Int32 :=
  if 1 = r_8 then v / 2
  else (-(v / 2)) - 1
def f_unfold_12 (g : Nat → Int32) (x : Nat → Nat → Int32) (q : Int32) (v : Int32) (r_1 : Int32) (r_11 : Int32) : Int32 := r_11
def f_unfold_2 (g : Nat → Int32) (x : Nat → Nat → Int32) (q : Int32) (v : Int32) (r_1 : Int32) : Int32 :=
  if r_1 = 0 then
    if (v - v / 2 * 2) = 0 then f_unfold_6 g x q v r_1 (f_leansBelow g x q)
    else f_unfold_9 g x q v r_1 (f_leansBelow g x q)
  else f_unfold_12 g x q v r_1 (f_unfoldEnd g x q v)
def f_unfold (g : Nat → Int32) (x : Nat → Nat → Int32) (q : Int32) (v : Int32) : Int32 := f_unfold_2 g x q v (f_endsRun q)
set_option maxHeartbeats 4000000 in
set_option maxRecDepth 100000 in
theorem c_unfold (l : Launch) (D : va_G) (sa : Nat → Nat) (sz : Nat) (qc : Nat) (qg : Nat) (ad : Nat → Nat) (ca : Nat → ClassId) (g : Nat → Int32) (x : Nat → Nat → Int32) (q : Int32) (v : Int32)  : Met l y_Co_unfold w_Co_unfold ({ frames := 4, cells := 0, slots := 0, locals := 89 }) (va_Pc [.ref qc, .int q, .int v] (vq_pre D sa [(qc, k_Co qg ad), (qg, k_Sc g), (ad 0, .inl (ca 0, 367, .inl (x 0))), (ad 1, .inl (ca 1, 367, .inl (x 1))), (ad 2, .inl (ca 2, 367, .inl (x 2))), (ad 3, .inl (ca 3, 367, .inl (x 3)))] [(ca 0, .int), (ca 1, .int), (ca 2, .int), (ca 3, .int)] sz)) (va_Qi (fun (r0 : Int32) (u : Unit) => f_unfold g x q v = r0) (vq_B D (va_A [(qc, k_Co qg ad), (qg, k_Sc g), (ad 0, .inl (ca 0, 367, .inl (x 0))), (ad 1, .inl (ca 1, 367, .inl (x 1))), (ad 2, .inl (ca 2, 367, .inl (x 2))), (ad 3, .inl (ca 3, 367, .inl (x 3)))] sz) [(ca 0, .int), (ca 1, .int), (ca 2, .int), (ca 3, .int)] (fun (u : Unit) => [(qc, k_Co qg ad), (qg, k_Sc g), (ad 0, .inl (ca 0, 367, .inl (x 0))), (ad 1, .inl (ca 1, 367, .inl (x 1))), (ad 2, .inl (ca 2, 367, .inl (x 2))), (ad 3, .inl (ca 3, 367, .inl (x 3)))])) (va_A [(qc, k_Co qg ad), (qg, k_Sc g), (ad 0, .inl (ca 0, 367, .inl (x 0))), (ad 1, .inl (ca 1, 367, .inl (x 1))), (ad 2, .inl (ca 2, 367, .inl (x 2))), (ad 3, .inl (ca 3, 367, .inl (x 3)))] sz)) 0 0 (va_A [(qc, k_Co qg ad), (qg, k_Sc g), (ad 0, .inl (ca 0, 367, .inl (x 0))), (ad 1, .inl (ca 1, 367, .inl (x 1))), (ad 2, .inl (ca 2, 367, .inl (x 2))), (ad 3, .inl (ca 3, 367, .inl (x 3)))] sz) := by
  refine Met.ofW (cc := b_Co_unfold) (maxL := 5) (ret := (some .int)) (by decide) rfl ?_
  intro p e s m args below meth c s₁ B hml hv
  obtain ⟨rfl, hsz, hP, hK, hD0, hE⟩ := hv
  have hx := B.exec
  have hb := B.bytes
  have hr := B.returns
  have hts := atoms_spec (ws := w_Co_unfold) B.pre
  have hu : ∀ w9 ∈ vU, Cond.before w9 ([.ref qc, .int q, .int v]).toArray s = true := fun w9 h => hts w9 (List.mem_cons_of_mem _ h)
  have hown : s.vm.findClass R_Co = some m.cls := findClass_of_methodNamed B.named
  have hlocks := B.notSynchronized
  subst hsz
  have hD := hD0.self (sz := s.heap.size)
  generalize hAe : va_A [(qc, k_Co qg ad), (qg, k_Sc g), (ad 0, .inl (ca 0, 367, .inl (x 0))), (ad 1, .inl (ca 1, 367, .inl (x 1))), (ad 2, .inl (ca 2, 367, .inl (x 2))), (ad 3, .inl (ca 3, 367, .inl (x 3)))] s.heap.size = A at hD ⊢
  have hA : ∀ q : Nat, s.heap.size ≤ q → A q := fun q h => by rw [← hAe]; exact Or.inr h
  have hS : va_S A s.heap s.heap [] := va_S.rf
  have hP : va_P D vwCl [(qc, k_Co qg ad), (qg, k_Sc g), (ad 0, .inl (ca 0, 367, .inl (x 0))), (ad 1, .inl (ca 1, 367, .inl (x 1))), (ad 2, .inl (ca 2, 367, .inl (x 2))), (ad 3, .inl (ca 3, 367, .inl (x 3)))] s.heap := hP
  have hl := lv_entry ([.ref qc, .int q, .int v]) (n := 5) (Nat.le_of_ble_eq_true rfl)
  rw [lg_entry_eq]
  generalize (lg_sl ([.ref qc, .int q, .int v]) ++ List.replicate (5 - (lg_sl ([.ref qc, .int q, .int v])).length) Slot.unset).toArray = ls at hl ⊢
  have hl : lv_has ls 5 [(0, .ref qc), (1, .int q), (2, .int v)] := hl
  refine lv_iload_n hx hb d_Co_unfold_0 rfl (lv_at hl 1 rfl) ?_
  refine vq_i (wr := [(qc, k_Co qg ad), (qg, k_Sc g), (ad 0, .inl (ca 0, 367, .inl (x 0))), (ad 1, .inl (ca 1, 367, .inl (x 1))), (ad 2, .inl (ca 2, 367, .inl (x 2))), (ad 3, .inl (ca 3, 367, .inl (x 3)))]) (va_runS (As := [.int q]) (rest := []) ⟨hx, hb, hml, hown, hts⟩ (c_endsRun l D sa s.heap.size q) (va_cwS 1 hts (vg_S (fun w h => List.mem_cons_of_mem _ h) hw_389 hw_390 hw_36 hw_391) rfl rfl rfl (by decide +kernel) ⟨Nat.le_of_ble_eq_true rfl, Nat.le_of_ble_eq_true rfl⟩) (vq_pS hE hK hP hD [] [] rfl (by decide) rfl) rfl rfl hl.1 rfl (lv_room (Nat.le_of_ble_eq_true rfl)) d_Co_unfold_1 ⟨Nat.le_of_ble_eq_true rfl, Nat.le_of_ble_eq_true rfl⟩) hP hD hS hA [] [0, 1, 2, 3, 4, 5] rfl rfl (by decide) (by decide) (fun r_1 u_1 H locs e_1 hP hD hS => ?_)
  have hP : va_P D vwCl [(qc, k_Co qg ad), (qg, k_Sc g), (ad 0, .inl (ca 0, 367, .inl (x 0))), (ad 1, .inl (ca 1, 367, .inl (x 1))), (ad 2, .inl (ca 2, 367, .inl (x 2))), (ad 3, .inl (ca 3, 367, .inl (x 3)))] H := hP
  have hD : va_D A [(qc, k_Co qg ad), (qg, k_Sc g), (ad 0, .inl (ca 0, 367, .inl (x 0))), (ad 1, .inl (ca 1, 367, .inl (x 1))), (ad 2, .inl (ca 2, 367, .inl (x 2))), (ad 3, .inl (ca 3, 367, .inl (x 3)))] := hD
  refine lv_if_eq (tgt := 14) hx hb d_Co_unfold_4 (by decide) (fun c_3 => ?_) (fun c_3 => ?_)
  · refine lv_iload_n hx hb d_Co_unfold_14 rfl (lv_at hl 2 rfl) ?_
    refine lv_iconst (v := 2) hx hb d_Co_unfold_15 (by decide) ?_
    refine lv_irem hx hb d_Co_unfold_16 (by decide) ?_
    refine lv_if_eq (tgt := 24) hx hb d_Co_unfold_17 (by decide) (fun c_4 => ?_) (fun c_4 => ?_)
    · refine lv_iconst (v := 0) hx hb d_Co_unfold_24 (by decide) ?_
      refine lv_istore_n (lv' := [(3, .int 0), (0, .ref qc), (1, .int q), (2, .int v)]) hx hb d_Co_unfold_25 rfl hl (by decide) rfl (fun ls hl => ?_)
      refine lv_iload_n hx hb d_Co_unfold_26 rfl (lv_at hl 3 rfl) ?_
      refine lv_iconst (v := 2) hx hb d_Co_unfold_27 (by decide) ?_
      refine lv_idiv hx hb d_Co_unfold_28 (by decide) ?_
      refine lv_istore (lv' := [(4, .int (v / 2)), (3, .int 0), (0, .ref qc), (1, .int q), (2, .int v)]) hx hb d_Co_unfold_29 hl (by decide) rfl (fun ls hl => ?_)
      refine lv_iload_n hx hb d_Co_unfold_31 rfl (lv_at hl 1 rfl) ?_
      refine lv_aload_n hx hb d_Co_unfold_32 rfl (lv_at hl 2 rfl) ?_
      refine lv_iload_n hx hb d_Co_unfold_33 rfl (lv_at hl 3 rfl) ?_
      refine vq_i (wr := []) (va_runV (As := [.int q]) (rest := [.int 0]) ⟨hx, hb, hml, hown, hts⟩ (c_leansBelow l D sa H.size qc qg ad ca g x q) (cwV 1 hts (vg_V (fun w h => List.mem_cons_of_mem _ h) hw_405 hw_406 hw_10 hw_36 hw_407) rfl rfl rfl (by decide +kernel) ⟨Nat.le_of_ble_eq_true rfl, Nat.le_of_ble_eq_true rfl⟩) (vq_pV hE hK hP hD [0, 1, 2, 3, 4, 5] [0, 1, 2, 3] rfl (by decide) rfl 4 0 rfl rfl rfl) rfl rfl hl.1 rfl (lv_room (Nat.le_of_ble_eq_true rfl)) d_Co_unfold_34 ⟨Nat.le_of_ble_eq_true rfl, Nat.le_of_ble_eq_true rfl⟩) hP hD hS hA [0, 1, 2, 3, 4, 5] [] rfl rfl (by decide) (by decide) (fun r_5 u_5 H locs e_5 hP hD hS => ?_)
      have hP : va_P D vwCl [(qc, k_Co qg ad), (qg, k_Sc g), (ad 0, .inl (ca 0, 367, .inl (x 0))), (ad 1, .inl (ca 1, 367, .inl (x 1))), (ad 2, .inl (ca 2, 367, .inl (x 2))), (ad 3, .inl (ca 3, 367, .inl (x 3)))] H := hP
      have hD : va_D A [(qc, k_Co qg ad), (qg, k_Sc g), (ad 0, .inl (ca 0, 367, .inl (x 0))), (ad 1, .inl (ca 1, 367, .inl (x 1))), (ad 2, .inl (ca 2, 367, .inl (x 2))), (ad 3, .inl (ca 3, 367, .inl (x 3)))] := hD
      refine lv_icmp_ne (tgt := 45) hx hb d_Co_unfold_37 (by decide) (fun c_7 => ?_) (fun c_7 => ?_)
      · refine lv_iload hx hb d_Co_unfold_45 (lv_at hl 0 rfl) ?_
        refine lv_ineg hx hb d_Co_unfold_47 ?_
        refine lv_iconst (v := 1) hx hb d_Co_unfold_48 (by decide) ?_
        refine lv_isub hx hb d_Co_unfold_49 ?_
        have hP9 : va_P D vwCl ([(qc, k_Co qg ad), (qg, k_Sc g), (ad 0, .inl (ca 0, 367, .inl (x 0))), (ad 1, .inl (ca 1, 367, .inl (x 1))), (ad 2, .inl (ca 2, 367, .inl (x 2))), (ad 3, .inl (ca 3, 367, .inl (x 3)))]) H := hP.sub [0, 1, 2, 3, 4, 5] rfl
        have hD9 : va_D A ([(qc, k_Co qg ad), (qg, k_Sc g), (ad 0, .inl (ca 0, 367, .inl (x 0))), (ad 1, .inl (ca 1, 367, .inl (x 1))), (ad 2, .inl (ca 2, 367, .inl (x 2))), (ad 3, .inl (ca 3, 367, .inl (x 3)))]) := hD.sub [0, 1, 2, 3, 4, 5] (by decide) rfl
        exact W.iret (v := (-(v / 2)) - 1) hx hb hr (fun t ht hW => ⟨⟨(-(v / 2)) - 1, (), rfl, by rw [f_unfold, e_1, f_unfold_2, if_pos c_3, if_pos c_4, e_5, f_unfold_6, if_neg c_7], by rw [ht]; exact hP9, va_K.moved hW.alike (hK.sub [0, 1, 2, 3] rfl), hD9⟩, hS.F ht⟩) hS.2.2 d_Co_unfold_50
      · refine lv_iload hx hb d_Co_unfold_40 (lv_at hl 0 rfl) ?_
        refine lv_goto (tgt := 50) hx hb d_Co_unfold_42 (by decide) ?_
        have hP9 : va_P D vwCl ([(qc, k_Co qg ad), (qg, k_Sc g), (ad 0, .inl (ca 0, 367, .inl (x 0))), (ad 1, .inl (ca 1, 367, .inl (x 1))), (ad 2, .inl (ca 2, 367, .inl (x 2))), (ad 3, .inl (ca 3, 367, .inl (x 3)))]) H := hP.sub [0, 1, 2, 3, 4, 5] rfl
        have hD9 : va_D A ([(qc, k_Co qg ad), (qg, k_Sc g), (ad 0, .inl (ca 0, 367, .inl (x 0))), (ad 1, .inl (ca 1, 367, .inl (x 1))), (ad 2, .inl (ca 2, 367, .inl (x 2))), (ad 3, .inl (ca 3, 367, .inl (x 3)))]) := hD.sub [0, 1, 2, 3, 4, 5] (by decide) rfl
        exact W.iret (v := v / 2) hx hb hr (fun t ht hW => ⟨⟨v / 2, (), rfl, by rw [f_unfold, e_1, f_unfold_2, if_pos c_3, if_pos c_4, e_5, f_unfold_6, if_pos c_7], by rw [ht]; exact hP9, va_K.moved hW.alike (hK.sub [0, 1, 2, 3] rfl), hD9⟩, hS.F ht⟩) hS.2.2 d_Co_unfold_50
    · refine lv_iconst (v := 1) hx hb d_Co_unfold_20 (by decide) ?_
      refine lv_goto (tgt := 25) hx hb d_Co_unfold_21 (by decide) ?_
      refine lv_istore_n (lv' := [(3, .int 1), (0, .ref qc), (1, .int q), (2, .int v)]) hx hb d_Co_unfold_25 rfl hl (by decide) rfl (fun ls hl => ?_)
      refine lv_iload_n hx hb d_Co_unfold_26 rfl (lv_at hl 3 rfl) ?_
      refine lv_iconst (v := 2) hx hb d_Co_unfold_27 (by decide) ?_
      refine lv_idiv hx hb d_Co_unfold_28 (by decide) ?_
      refine lv_istore (lv' := [(4, .int (v / 2)), (3, .int 1), (0, .ref qc), (1, .int q), (2, .int v)]) hx hb d_Co_unfold_29 hl (by decide) rfl (fun ls hl => ?_)
      refine lv_iload_n hx hb d_Co_unfold_31 rfl (lv_at hl 1 rfl) ?_
      refine lv_aload_n hx hb d_Co_unfold_32 rfl (lv_at hl 2 rfl) ?_
      refine lv_iload_n hx hb d_Co_unfold_33 rfl (lv_at hl 3 rfl) ?_
      refine vq_i (wr := []) (va_runV (As := [.int q]) (rest := [.int 1]) ⟨hx, hb, hml, hown, hts⟩ (c_leansBelow l D sa H.size qc qg ad ca g x q) (cwV 1 hts (vg_V (fun w h => List.mem_cons_of_mem _ h) hw_405 hw_406 hw_10 hw_36 hw_407) rfl rfl rfl (by decide +kernel) ⟨Nat.le_of_ble_eq_true rfl, Nat.le_of_ble_eq_true rfl⟩) (vq_pV hE hK hP hD [0, 1, 2, 3, 4, 5] [0, 1, 2, 3] rfl (by decide) rfl 4 0 rfl rfl rfl) rfl rfl hl.1 rfl (lv_room (Nat.le_of_ble_eq_true rfl)) d_Co_unfold_34 ⟨Nat.le_of_ble_eq_true rfl, Nat.le_of_ble_eq_true rfl⟩) hP hD hS hA [0, 1, 2, 3, 4, 5] [] rfl rfl (by decide) (by decide) (fun r_8 u_8 H locs e_8 hP hD hS => ?_)
      have hP : va_P D vwCl [(qc, k_Co qg ad), (qg, k_Sc g), (ad 0, .inl (ca 0, 367, .inl (x 0))), (ad 1, .inl (ca 1, 367, .inl (x 1))), (ad 2, .inl (ca 2, 367, .inl (x 2))), (ad 3, .inl (ca 3, 367, .inl (x 3)))] H := hP
      have hD : va_D A [(qc, k_Co qg ad), (qg, k_Sc g), (ad 0, .inl (ca 0, 367, .inl (x 0))), (ad 1, .inl (ca 1, 367, .inl (x 1))), (ad 2, .inl (ca 2, 367, .inl (x 2))), (ad 3, .inl (ca 3, 367, .inl (x 3)))] := hD
      refine lv_icmp_ne (tgt := 45) hx hb d_Co_unfold_37 (by decide) (fun c_10 => ?_) (fun c_10 => ?_)
      · refine lv_iload hx hb d_Co_unfold_45 (lv_at hl 0 rfl) ?_
        refine lv_ineg hx hb d_Co_unfold_47 ?_
        refine lv_iconst (v := 1) hx hb d_Co_unfold_48 (by decide) ?_
        refine lv_isub hx hb d_Co_unfold_49 ?_
        have hP9 : va_P D vwCl ([(qc, k_Co qg ad), (qg, k_Sc g), (ad 0, .inl (ca 0, 367, .inl (x 0))), (ad 1, .inl (ca 1, 367, .inl (x 1))), (ad 2, .inl (ca 2, 367, .inl (x 2))), (ad 3, .inl (ca 3, 367, .inl (x 3)))]) H := hP.sub [0, 1, 2, 3, 4, 5] rfl
        have hD9 : va_D A ([(qc, k_Co qg ad), (qg, k_Sc g), (ad 0, .inl (ca 0, 367, .inl (x 0))), (ad 1, .inl (ca 1, 367, .inl (x 1))), (ad 2, .inl (ca 2, 367, .inl (x 2))), (ad 3, .inl (ca 3, 367, .inl (x 3)))]) := hD.sub [0, 1, 2, 3, 4, 5] (by decide) rfl
        exact W.iret (v := (-(v / 2)) - 1) hx hb hr (fun t ht hW => ⟨⟨(-(v / 2)) - 1, (), rfl, by rw [f_unfold, e_1, f_unfold_2, if_pos c_3, if_neg c_4, e_8, f_unfold_9, if_neg c_10], by rw [ht]; exact hP9, va_K.moved hW.alike (hK.sub [0, 1, 2, 3] rfl), hD9⟩, hS.F ht⟩) hS.2.2 d_Co_unfold_50
      · refine lv_iload hx hb d_Co_unfold_40 (lv_at hl 0 rfl) ?_
        refine lv_goto (tgt := 50) hx hb d_Co_unfold_42 (by decide) ?_
        have hP9 : va_P D vwCl ([(qc, k_Co qg ad), (qg, k_Sc g), (ad 0, .inl (ca 0, 367, .inl (x 0))), (ad 1, .inl (ca 1, 367, .inl (x 1))), (ad 2, .inl (ca 2, 367, .inl (x 2))), (ad 3, .inl (ca 3, 367, .inl (x 3)))]) H := hP.sub [0, 1, 2, 3, 4, 5] rfl
        have hD9 : va_D A ([(qc, k_Co qg ad), (qg, k_Sc g), (ad 0, .inl (ca 0, 367, .inl (x 0))), (ad 1, .inl (ca 1, 367, .inl (x 1))), (ad 2, .inl (ca 2, 367, .inl (x 2))), (ad 3, .inl (ca 3, 367, .inl (x 3)))]) := hD.sub [0, 1, 2, 3, 4, 5] (by decide) rfl
        exact W.iret (v := v / 2) hx hb hr (fun t ht hW => ⟨⟨v / 2, (), rfl, by rw [f_unfold, e_1, f_unfold_2, if_pos c_3, if_neg c_4, e_8, f_unfold_9, if_pos c_10], by rw [ht]; exact hP9, va_K.moved hW.alike (hK.sub [0, 1, 2, 3] rfl), hD9⟩, hS.F ht⟩) hS.2.2 d_Co_unfold_50
  · refine lv_aload_n hx hb d_Co_unfold_7 rfl (lv_at hl 0 rfl) ?_
    refine lv_iload_n hx hb d_Co_unfold_8 rfl (lv_at hl 1 rfl) ?_
    refine lv_iload_n hx hb d_Co_unfold_9 rfl (lv_at hl 2 rfl) ?_
    refine vq_i (wr := []) (va_runV (As := [.int q, .int v]) (rest := []) ⟨hx, hb, hml, hown, hts⟩ (c_unfoldEnd l D sa H.size qc qg ad ca g x q v) (cwV 2 hts (vg_V (fun w h => List.mem_cons_of_mem _ h) hw_435 hw_436 hw_13 hw_36 hw_437) rfl rfl rfl (by decide +kernel) ⟨Nat.le_of_ble_eq_true rfl, Nat.le_of_ble_eq_true rfl⟩) (vq_pV hE hK hP hD [0, 1, 2, 3, 4, 5] [0, 1, 2, 3] rfl (by decide) rfl 4 0 rfl rfl rfl) rfl rfl hl.1 rfl (lv_room (Nat.le_of_ble_eq_true rfl)) d_Co_unfold_10 ⟨Nat.le_of_ble_eq_true rfl, Nat.le_of_ble_eq_true rfl⟩) hP hD hS hA [0, 1, 2, 3, 4, 5] [] rfl rfl (by decide) (by decide) (fun r_11 u_11 H locs e_11 hP hD hS => ?_)
    have hP : va_P D vwCl [(qc, k_Co qg ad), (qg, k_Sc g), (ad 0, .inl (ca 0, 367, .inl (x 0))), (ad 1, .inl (ca 1, 367, .inl (x 1))), (ad 2, .inl (ca 2, 367, .inl (x 2))), (ad 3, .inl (ca 3, 367, .inl (x 3)))] H := hP
    have hD : va_D A [(qc, k_Co qg ad), (qg, k_Sc g), (ad 0, .inl (ca 0, 367, .inl (x 0))), (ad 1, .inl (ca 1, 367, .inl (x 1))), (ad 2, .inl (ca 2, 367, .inl (x 2))), (ad 3, .inl (ca 3, 367, .inl (x 3)))] := hD
    have hP9 : va_P D vwCl ([(qc, k_Co qg ad), (qg, k_Sc g), (ad 0, .inl (ca 0, 367, .inl (x 0))), (ad 1, .inl (ca 1, 367, .inl (x 1))), (ad 2, .inl (ca 2, 367, .inl (x 2))), (ad 3, .inl (ca 3, 367, .inl (x 3)))]) H := hP.sub [0, 1, 2, 3, 4, 5] rfl
    have hD9 : va_D A ([(qc, k_Co qg ad), (qg, k_Sc g), (ad 0, .inl (ca 0, 367, .inl (x 0))), (ad 1, .inl (ca 1, 367, .inl (x 1))), (ad 2, .inl (ca 2, 367, .inl (x 2))), (ad 3, .inl (ca 3, 367, .inl (x 3)))]) := hD.sub [0, 1, 2, 3, 4, 5] (by decide) rfl
    exact W.iret (v := r_11) hx hb hr (fun t ht hW => ⟨⟨r_11, (), rfl, by rw [f_unfold, e_1, f_unfold_2, if_neg c_3, e_11, f_unfold_12], by rw [ht]; exact hP9, va_K.moved hW.alike (hK.sub [0, 1, 2, 3] rfl), hD9⟩, hS.F ht⟩) hS.2.2 d_Co_unfold_13
def f_learnEnd_6 (g : Nat → Int32) (x : Nat → Nat → Int32) (q : Int32) (v : Int32) (w : Int32) (r_1 : Int32) (r_5 : Int32) : Nat → Nat → Int32 :=
  if ((x 3) (q).toNatClampNeg) = (g 7) then (mkx (upd (upd (x 0) (q).toNatClampNeg (((x 0) (q).toNatClampNeg) + (((w + 1) - r_5) / 2))) (q).toNatClampNeg (((upd (x 0) (q).toNatClampNeg (((x 0) (q).toNatClampNeg) + (((w + 1) - r_5) / 2))) (q).toNatClampNeg) / 2)) (upd (x 1) (q).toNatClampNeg (((x 1) (q).toNatClampNeg) / 2)) (x 2) (upd (upd (x 3) (q).toNatClampNeg (((x 3) (q).toNatClampNeg) / 2)) (q).toNatClampNeg (((upd (x 3) (q).toNatClampNeg (((x 3) (q).toNatClampNeg) / 2)) (q).toNatClampNeg) + 1)))
  else (mkx (upd (x 0) (q).toNatClampNeg (((x 0) (q).toNatClampNeg) + (((w + 1) - r_5) / 2))) (x 1) (x 2) (upd (x 3) (q).toNatClampNeg (((x 3) (q).toNatClampNeg) + 1)))
def f_learnEnd_9 (g : Nat → Int32) (x : Nat → Nat → Int32) (q : Int32) (v : Int32) (w : Int32) (r_1 : Int32) (r_8 : Int32) : Nat → Nat → Int32 :=
  if ((x 3) (q).toNatClampNeg) = (g 7) then (mkx (upd (upd (x 0) (q).toNatClampNeg (((x 0) (q).toNatClampNeg) + (((w + 1) - r_8) / 2))) (q).toNatClampNeg (((upd (x 0) (q).toNatClampNeg (((x 0) (q).toNatClampNeg) + (((w + 1) - r_8) / 2))) (q).toNatClampNeg) / 2)) (upd (upd (x 1) (q).toNatClampNeg (((x 1) (q).toNatClampNeg) + 1)) (q).toNatClampNeg (((upd (x 1) (q).toNatClampNeg (((x 1) (q).toNatClampNeg) + 1)) (q).toNatClampNeg) / 2)) (x 2) (upd (upd (x 3) (q).toNatClampNeg (((x 3) (q).toNatClampNeg) / 2)) (q).toNatClampNeg (((upd (x 3) (q).toNatClampNeg (((x 3) (q).toNatClampNeg) / 2)) (q).toNatClampNeg) + 1)))
  else (mkx (upd (x 0) (q).toNatClampNeg (((x 0) (q).toNatClampNeg) + (((w + 1) - r_8) / 2))) (upd (x 1) (q).toNatClampNeg (((x 1) (q).toNatClampNeg) + 1)) (x 2) (upd (x 3) (q).toNatClampNeg (((x 3) (q).toNatClampNeg) + 1)))
def f_learnEnd_2 (g : Nat → Int32) (x : Nat → Nat → Int32) (q : Int32) (v : Int32) (w : Int32) (r_1 : Int32) : Nat → Nat → Int32 :=
  if r_1 = 0 then x
  else
    if 0 ≤ v then f_learnEnd_6 g x q v w r_1 (f_likeness q)
    else f_learnEnd_9 g x q v w r_1 (f_likeness q)
def f_learnEnd (g : Nat → Int32) (x : Nat → Nat → Int32) (q : Int32) (v : Int32) (w : Int32) : Nat → Nat → Int32 := f_learnEnd_2 g x q v w (f_has q)
set_option maxHeartbeats 4000000 in
set_option maxRecDepth 100000 in
theorem c_learnEnd (l : Launch) (D : va_G) (sa : Nat → Nat) (sz : Nat) (qc : Nat) (qg : Nat) (ad : Nat → Nat) (ca : Nat → ClassId) (g : Nat → Int32) (x : Nat → Nat → Int32) (q : Int32) (v : Int32) (w : Int32)  : Met l y_Co_learnEnd w_Co_learnEnd ({ frames := 1, cells := 0, slots := 0, locals := 20 }) (va_Pc [.ref qc, .int q, .int v, .int w] (vq_pre D sa [(qc, k_Co qg ad), (qg, k_Sc g), (ad 0, .inl (ca 0, 367, .inl (x 0))), (ad 1, .inl (ca 1, 367, .inl (x 1))), (ad 2, .inl (ca 2, 367, .inl (x 2))), (ad 3, .inl (ca 3, 367, .inl (x 3)))] [(ca 0, .int), (ca 1, .int), (ca 2, .int), (ca 3, .int)] sz)) (va_Qv (fun (u : (Nat → Nat → Int32)) => f_learnEnd g x q v w = u) (vq_B D (va_A [(qc, k_Co qg ad), (qg, k_Sc g), (ad 0, .inl (ca 0, 367, .inl (x 0))), (ad 1, .inl (ca 1, 367, .inl (x 1))), (ad 2, .inl (ca 2, 367, .inl (x 2))), (ad 3, .inl (ca 3, 367, .inl (x 3)))] sz) [(ca 0, .int), (ca 1, .int), (ca 2, .int), (ca 3, .int)] (fun (u : (Nat → Nat → Int32)) => [(qc, k_Co qg ad), (qg, k_Sc g), (ad 0, .inl (ca 0, 367, .inl (u 0))), (ad 1, .inl (ca 1, 367, .inl (u 1))), (ad 2, .inl (ca 2, 367, .inl (u 2))), (ad 3, .inl (ca 3, 367, .inl (u 3)))])) (va_A [(qc, k_Co qg ad), (qg, k_Sc g), (ad 0, .inl (ca 0, 367, .inl (x 0))), (ad 1, .inl (ca 1, 367, .inl (x 1))), (ad 2, .inl (ca 2, 367, .inl (x 2))), (ad 3, .inl (ca 3, 367, .inl (x 3)))] sz)) 0 0 (va_A [(qc, k_Co qg ad), (qg, k_Sc g), (ad 0, .inl (ca 0, 367, .inl (x 0))), (ad 1, .inl (ca 1, 367, .inl (x 1))), (ad 2, .inl (ca 2, 367, .inl (x 2))), (ad 3, .inl (ca 3, 367, .inl (x 3)))] sz) := by
  refine Met.ofW (cc := b_Co_learnEnd) (maxL := 4) (ret := none) (by decide) rfl ?_
  intro p e s m args below meth c s₁ B hml hv
  obtain ⟨rfl, hsz, hP, hK, hD0, hE⟩ := hv
  have hx := B.exec
  have hb := B.bytes
  have hr := B.returns
  have hts := atoms_spec (ws := w_Co_learnEnd) B.pre
  have hu : ∀ w9 ∈ vU, Cond.before w9 ([.ref qc, .int q, .int v, .int w]).toArray s = true := fun w9 h => hts w9 (List.mem_cons_of_mem _ h)
  have hown : s.vm.findClass R_Co = some m.cls := findClass_of_methodNamed B.named
  have hlocks := B.notSynchronized
  subst hsz
  have hD := hD0.self (sz := s.heap.size)
  generalize hAe : va_A [(qc, k_Co qg ad), (qg, k_Sc g), (ad 0, .inl (ca 0, 367, .inl (x 0))), (ad 1, .inl (ca 1, 367, .inl (x 1))), (ad 2, .inl (ca 2, 367, .inl (x 2))), (ad 3, .inl (ca 3, 367, .inl (x 3)))] s.heap.size = A at hD ⊢
  have hA : ∀ q : Nat, s.heap.size ≤ q → A q := fun q h => by rw [← hAe]; exact Or.inr h
  have hS : va_S A s.heap s.heap [] := va_S.rf
  have hP : va_P D vwCl [(qc, k_Co qg ad), (qg, k_Sc g), (ad 0, .inl (ca 0, 367, .inl (x 0))), (ad 1, .inl (ca 1, 367, .inl (x 1))), (ad 2, .inl (ca 2, 367, .inl (x 2))), (ad 3, .inl (ca 3, 367, .inl (x 3)))] s.heap := hP
  have hl := lv_entry ([.ref qc, .int q, .int v, .int w]) (n := 4) (Nat.le_of_ble_eq_true rfl)
  rw [lg_entry_eq]
  generalize (lg_sl ([.ref qc, .int q, .int v, .int w]) ++ List.replicate (4 - (lg_sl ([.ref qc, .int q, .int v, .int w])).length) Slot.unset).toArray = ls at hl ⊢
  have hl : lv_has ls 4 [(0, .ref qc), (1, .int q), (2, .int v), (3, .int w)] := hl
  refine lv_iload_n hx hb d_Co_learnEnd_0 rfl (lv_at hl 1 rfl) ?_
  refine vq_i (wr := [(qc, k_Co qg ad), (qg, k_Sc g), (ad 0, .inl (ca 0, 367, .inl (x 0))), (ad 1, .inl (ca 1, 367, .inl (x 1))), (ad 2, .inl (ca 2, 367, .inl (x 2))), (ad 3, .inl (ca 3, 367, .inl (x 3)))]) (va_runS (As := [.int q]) (rest := []) ⟨hx, hb, hml, hown, hts⟩ (c_has l D sa s.heap.size q) (va_cwS 1 hts (vg_S (fun w h => List.mem_cons_of_mem _ h) hw_356 hw_357 hw_36 hw_358) rfl rfl rfl (by decide +kernel) ⟨Nat.le_of_ble_eq_true rfl, Nat.le_of_ble_eq_true rfl⟩) (vq_pS hE hK hP hD [] [] rfl (by decide) rfl) rfl rfl hl.1 rfl (lv_room (Nat.le_of_ble_eq_true rfl)) d_Co_learnEnd_1 ⟨Nat.le_of_ble_eq_true rfl, Nat.le_of_ble_eq_true rfl⟩) hP hD hS hA [] [0, 1, 2, 3, 4, 5] rfl rfl (by decide) (by decide) (fun r_1 u_1 H locs e_1 hP hD hS => ?_)
  have hP : va_P D vwCl [(qc, k_Co qg ad), (qg, k_Sc g), (ad 0, .inl (ca 0, 367, .inl (x 0))), (ad 1, .inl (ca 1, 367, .inl (x 1))), (ad 2, .inl (ca 2, 367, .inl (x 2))), (ad 3, .inl (ca 3, 367, .inl (x 3)))] H := hP
  have hD : va_D A [(qc, k_Co qg ad), (qg, k_Sc g), (ad 0, .inl (ca 0, 367, .inl (x 0))), (ad 1, .inl (ca 1, 367, .inl (x 1))), (ad 2, .inl (ca 2, 367, .inl (x 2))), (ad 3, .inl (ca 3, 367, .inl (x 3)))] := hD
  refine lv_if_ne (tgt := 8) hx hb d_Co_learnEnd_4 (by decide) (fun c_3 => ?_) (fun c_3 => ?_)
  · refine lv_iload_n hx hb d_Co_learnEnd_8 rfl (lv_at hl 2 rfl) ?_
    refine lv_if_ge (tgt := 22) hx hb d_Co_learnEnd_9 (by decide) (fun c_4 => ?_) (fun c_4 => ?_)
    · refine lv_aload_n hx hb d_Co_learnEnd_22 rfl (lv_at hl 0 rfl) ?_
      refine va_get (D := D) (ci := 4) (v := .ref (ad 0)) (C := R_Co) (T := T_Co) (N := 5) hx hb hu in_Co hown hK hP 0 rfl rfl 1 (by decide) (hu _ hw_125) (fun _ h9 => h9) rfl d_Co_learnEnd_23 ?_
      refine lv_iload_n hx hb d_Co_learnEnd_26 rfl (lv_at hl 1 rfl) ?_
      refine lv_dup2_11 hx hb d_Co_learnEnd_27 rfl rfl ?_
      refine va_iald hx hb hK hP 2 0 rfl rfl (vq_hasr (by assumption) (by assumption)) d_Co_learnEnd_28 ?_
      refine lv_iload_n hx hb d_Co_learnEnd_29 rfl (lv_at hl 3 rfl) ?_
      refine lv_iconst (v := 1) hx hb d_Co_learnEnd_30 (by decide) ?_
      refine lv_iadd hx hb d_Co_learnEnd_31 ?_
      refine lv_iload_n hx hb d_Co_learnEnd_32 rfl (lv_at hl 1 rfl) ?_
      refine vq_i (wr := [(qc, k_Co qg ad), (qg, k_Sc g), (ad 0, .inl (ca 0, 367, .inl (x 0))), (ad 1, .inl (ca 1, 367, .inl (x 1))), (ad 2, .inl (ca 2, 367, .inl (x 2))), (ad 3, .inl (ca 3, 367, .inl (x 3)))]) (va_runS (As := [.int q]) (rest := [.int (w + 1), .int ((x 0) (q).toNatClampNeg), .int q, .ref (ad 0)]) ⟨hx, hb, hml, hown, hts⟩ (c_likeness l D sa H.size q) (va_cwS 1 hts (vg_S (fun w h => List.mem_cons_of_mem _ h) hw_402 hw_403 hw_36 hw_404) rfl rfl rfl (by decide +kernel) ⟨Nat.le_of_ble_eq_true rfl, Nat.le_of_ble_eq_true rfl⟩) (vq_pS hE hK hP hD [] [] rfl (by decide) rfl) rfl rfl hl.1 rfl (lv_room (Nat.le_of_ble_eq_true rfl)) d_Co_learnEnd_33 ⟨Nat.le_of_ble_eq_true rfl, Nat.le_of_ble_eq_true rfl⟩) hP hD hS hA [] [0, 1, 2, 3, 4, 5] rfl rfl (by decide) (by decide) (fun r_5 u_5 H locs e_5 hP hD hS => ?_)
      have hP : va_P D vwCl [(qc, k_Co qg ad), (qg, k_Sc g), (ad 0, .inl (ca 0, 367, .inl (x 0))), (ad 1, .inl (ca 1, 367, .inl (x 1))), (ad 2, .inl (ca 2, 367, .inl (x 2))), (ad 3, .inl (ca 3, 367, .inl (x 3)))] H := hP
      have hD : va_D A [(qc, k_Co qg ad), (qg, k_Sc g), (ad 0, .inl (ca 0, 367, .inl (x 0))), (ad 1, .inl (ca 1, 367, .inl (x 1))), (ad 2, .inl (ca 2, 367, .inl (x 2))), (ad 3, .inl (ca 3, 367, .inl (x 3)))] := hD
      refine lv_isub hx hb d_Co_learnEnd_36 ?_
      refine lv_iconst (v := 2) hx hb d_Co_learnEnd_37 (by decide) ?_
      refine lv_idiv hx hb d_Co_learnEnd_38 (by decide) ?_
      refine lv_iadd hx hb d_Co_learnEnd_39 ?_
      refine va_iast hx hb hK hP hD hS 2 0 rfl rfl (vq_hasr (by assumption) (by assumption)) d_Co_learnEnd_40 (fun H locs hP hD hS => ?_)
      have hP : va_P D vwCl [(qc, k_Co qg ad), (qg, k_Sc g), (ad 0, .inl (ca 0, 367, .inl (upd (x 0) (q).toNatClampNeg (((x 0) (q).toNatClampNeg) + (((w + 1) - r_5) / 2))))), (ad 1, .inl (ca 1, 367, .inl (x 1))), (ad 2, .inl (ca 2, 367, .inl (x 2))), (ad 3, .inl (ca 3, 367, .inl (x 3)))] H := hP
      have hD : va_D A [(qc, k_Co qg ad), (qg, k_Sc g), (ad 0, .inl (ca 0, 367, .inl (upd (x 0) (q).toNatClampNeg (((x 0) (q).toNatClampNeg) + (((w + 1) - r_5) / 2))))), (ad 1, .inl (ca 1, 367, .inl (x 1))), (ad 2, .inl (ca 2, 367, .inl (x 2))), (ad 3, .inl (ca 3, 367, .inl (x 3)))] := hD
      refine lv_aload_n hx hb d_Co_learnEnd_41 rfl (lv_at hl 0 rfl) ?_
      refine va_get (D := D) (ci := 4) (v := .ref (ad 3)) (C := R_Co) (T := T_Co) (N := 5) hx hb hu in_Co hown hK hP 0 rfl rfl 4 (by decide) (hu _ hw_128) (fun _ h9 => h9) rfl d_Co_learnEnd_42 ?_
      refine lv_iload_n hx hb d_Co_learnEnd_45 rfl (lv_at hl 1 rfl) ?_
      refine va_iald hx hb hK hP 5 3 rfl rfl (vq_hasr (by assumption) (by assumption)) d_Co_learnEnd_46 ?_
      refine lv_aload_n hx hb d_Co_learnEnd_47 rfl (lv_at hl 0 rfl) ?_
      refine va_get (D := D) (ci := 4) (v := .ref qg) (C := R_Co) (T := T_Co) (N := 5) hx hb hu in_Co hown hK hP 0 rfl rfl 0 (by decide) (hu _ hw_124) (fun _ h9 => h9) rfl d_Co_learnEnd_48 ?_
      refine va_get (D := D) (ci := 1) (v := .int (g 7)) (C := R_Sc) (T := T_Sc) (N := 8) hx hb hu in_Sc hown hK hP 1 rfl rfl 7 (by decide) (hu _ hw_99) (fun _ h9 => h9) rfl d_Co_learnEnd_51 ?_
      refine lv_icmp_ne (tgt := 87) hx hb d_Co_learnEnd_54 (by decide) (fun c_7 => ?_) (fun c_7 => ?_)
      · refine lv_aload_n hx hb d_Co_learnEnd_87 rfl (lv_at hl 0 rfl) ?_
        refine va_get (D := D) (ci := 4) (v := .ref (ad 3)) (C := R_Co) (T := T_Co) (N := 5) hx hb hu in_Co hown hK hP 0 rfl rfl 4 (by decide) (hu _ hw_128) (fun _ h9 => h9) rfl d_Co_learnEnd_88 ?_
        refine lv_iload_n hx hb d_Co_learnEnd_91 rfl (lv_at hl 1 rfl) ?_
        refine lv_dup2_11 hx hb d_Co_learnEnd_92 rfl rfl ?_
        refine va_iald hx hb hK hP 5 3 rfl rfl (vq_hasr (by assumption) (by assumption)) d_Co_learnEnd_93 ?_
        refine lv_iconst (v := 1) hx hb d_Co_learnEnd_94 (by decide) ?_
        refine lv_iadd hx hb d_Co_learnEnd_95 ?_
        refine va_iast hx hb hK hP hD hS 5 3 rfl rfl (vq_hasr (by assumption) (by assumption)) d_Co_learnEnd_96 (fun H locs hP hD hS => ?_)
        have hP : va_P D vwCl [(qc, k_Co qg ad), (qg, k_Sc g), (ad 0, .inl (ca 0, 367, .inl (upd (x 0) (q).toNatClampNeg (((x 0) (q).toNatClampNeg) + (((w + 1) - r_5) / 2))))), (ad 1, .inl (ca 1, 367, .inl (x 1))), (ad 2, .inl (ca 2, 367, .inl (x 2))), (ad 3, .inl (ca 3, 367, .inl (upd (x 3) (q).toNatClampNeg (((x 3) (q).toNatClampNeg) + 1))))] H := hP
        have hD : va_D A [(qc, k_Co qg ad), (qg, k_Sc g), (ad 0, .inl (ca 0, 367, .inl (upd (x 0) (q).toNatClampNeg (((x 0) (q).toNatClampNeg) + (((w + 1) - r_5) / 2))))), (ad 1, .inl (ca 1, 367, .inl (x 1))), (ad 2, .inl (ca 2, 367, .inl (x 2))), (ad 3, .inl (ca 3, 367, .inl (upd (x 3) (q).toNatClampNeg (((x 3) (q).toNatClampNeg) + 1))))] := hD
        have hP9 : va_P D vwCl ([(qc, k_Co qg ad), (qg, k_Sc g), (ad 0, .inl (ca 0, 367, .inl ((mkx (upd (x 0) (q).toNatClampNeg (((x 0) (q).toNatClampNeg) + (((w + 1) - r_5) / 2))) (x 1) (x 2) (upd (x 3) (q).toNatClampNeg (((x 3) (q).toNatClampNeg) + 1))) 0))), (ad 1, .inl (ca 1, 367, .inl ((mkx (upd (x 0) (q).toNatClampNeg (((x 0) (q).toNatClampNeg) + (((w + 1) - r_5) / 2))) (x 1) (x 2) (upd (x 3) (q).toNatClampNeg (((x 3) (q).toNatClampNeg) + 1))) 1))), (ad 2, .inl (ca 2, 367, .inl ((mkx (upd (x 0) (q).toNatClampNeg (((x 0) (q).toNatClampNeg) + (((w + 1) - r_5) / 2))) (x 1) (x 2) (upd (x 3) (q).toNatClampNeg (((x 3) (q).toNatClampNeg) + 1))) 2))), (ad 3, .inl (ca 3, 367, .inl ((mkx (upd (x 0) (q).toNatClampNeg (((x 0) (q).toNatClampNeg) + (((w + 1) - r_5) / 2))) (x 1) (x 2) (upd (x 3) (q).toNatClampNeg (((x 3) (q).toNatClampNeg) + 1))) 3)))]) H := hP.sub [0, 1, 2, 3, 4, 5] rfl
        have hD9 : va_D A ([(qc, k_Co qg ad), (qg, k_Sc g), (ad 0, .inl (ca 0, 367, .inl ((mkx (upd (x 0) (q).toNatClampNeg (((x 0) (q).toNatClampNeg) + (((w + 1) - r_5) / 2))) (x 1) (x 2) (upd (x 3) (q).toNatClampNeg (((x 3) (q).toNatClampNeg) + 1))) 0))), (ad 1, .inl (ca 1, 367, .inl ((mkx (upd (x 0) (q).toNatClampNeg (((x 0) (q).toNatClampNeg) + (((w + 1) - r_5) / 2))) (x 1) (x 2) (upd (x 3) (q).toNatClampNeg (((x 3) (q).toNatClampNeg) + 1))) 1))), (ad 2, .inl (ca 2, 367, .inl ((mkx (upd (x 0) (q).toNatClampNeg (((x 0) (q).toNatClampNeg) + (((w + 1) - r_5) / 2))) (x 1) (x 2) (upd (x 3) (q).toNatClampNeg (((x 3) (q).toNatClampNeg) + 1))) 2))), (ad 3, .inl (ca 3, 367, .inl ((mkx (upd (x 0) (q).toNatClampNeg (((x 0) (q).toNatClampNeg) + (((w + 1) - r_5) / 2))) (x 1) (x 2) (upd (x 3) (q).toNatClampNeg (((x 3) (q).toNatClampNeg) + 1))) 3)))]) := hD.sub [0, 1, 2, 3, 4, 5] (by decide) rfl
        exact W.vret hx hb hr (fun t ht hW => ⟨⟨(mkx (upd (x 0) (q).toNatClampNeg (((x 0) (q).toNatClampNeg) + (((w + 1) - r_5) / 2))) (x 1) (x 2) (upd (x 3) (q).toNatClampNeg (((x 3) (q).toNatClampNeg) + 1))), rfl, by rw [f_learnEnd, e_1, f_learnEnd_2, if_neg c_3, if_pos c_4, e_5, f_learnEnd_6, if_neg c_7], by rw [ht]; exact hP9, va_K.moved hW.alike (hK.sub [0, 1, 2, 3] rfl), hD9⟩, hS.F ht⟩) hS.2.2 d_Co_learnEnd_97
      · refine lv_aload_n hx hb d_Co_learnEnd_57 rfl (lv_at hl 0 rfl) ?_
        refine va_get (D := D) (ci := 4) (v := .ref (ad 0)) (C := R_Co) (T := T_Co) (N := 5) hx hb hu in_Co hown hK hP 0 rfl rfl 1 (by decide) (hu _ hw_125) (fun _ h9 => h9) rfl d_Co_learnEnd_58 ?_
        refine lv_iload_n hx hb d_Co_learnEnd_61 rfl (lv_at hl 1 rfl) ?_
        refine lv_dup2_11 hx hb d_Co_learnEnd_62 rfl rfl ?_
        refine va_iald hx hb hK hP 2 0 rfl rfl (vq_hasr (by assumption) (by assumption)) d_Co_learnEnd_63 ?_
        refine lv_iconst (v := 2) hx hb d_Co_learnEnd_64 (by decide) ?_
        refine lv_idiv hx hb d_Co_learnEnd_65 (by decide) ?_
        refine va_iast hx hb hK hP hD hS 2 0 rfl rfl (vq_hasr (by assumption) (by assumption)) d_Co_learnEnd_66 (fun H locs hP hD hS => ?_)
        have hP : va_P D vwCl [(qc, k_Co qg ad), (qg, k_Sc g), (ad 0, .inl (ca 0, 367, .inl (upd (upd (x 0) (q).toNatClampNeg (((x 0) (q).toNatClampNeg) + (((w + 1) - r_5) / 2))) (q).toNatClampNeg (((upd (x 0) (q).toNatClampNeg (((x 0) (q).toNatClampNeg) + (((w + 1) - r_5) / 2))) (q).toNatClampNeg) / 2)))), (ad 1, .inl (ca 1, 367, .inl (x 1))), (ad 2, .inl (ca 2, 367, .inl (x 2))), (ad 3, .inl (ca 3, 367, .inl (x 3)))] H := hP
        have hD : va_D A [(qc, k_Co qg ad), (qg, k_Sc g), (ad 0, .inl (ca 0, 367, .inl (upd (upd (x 0) (q).toNatClampNeg (((x 0) (q).toNatClampNeg) + (((w + 1) - r_5) / 2))) (q).toNatClampNeg (((upd (x 0) (q).toNatClampNeg (((x 0) (q).toNatClampNeg) + (((w + 1) - r_5) / 2))) (q).toNatClampNeg) / 2)))), (ad 1, .inl (ca 1, 367, .inl (x 1))), (ad 2, .inl (ca 2, 367, .inl (x 2))), (ad 3, .inl (ca 3, 367, .inl (x 3)))] := hD
        refine lv_aload_n hx hb d_Co_learnEnd_67 rfl (lv_at hl 0 rfl) ?_
        refine va_get (D := D) (ci := 4) (v := .ref (ad 3)) (C := R_Co) (T := T_Co) (N := 5) hx hb hu in_Co hown hK hP 0 rfl rfl 4 (by decide) (hu _ hw_128) (fun _ h9 => h9) rfl d_Co_learnEnd_68 ?_
        refine lv_iload_n hx hb d_Co_learnEnd_71 rfl (lv_at hl 1 rfl) ?_
        refine lv_dup2_11 hx hb d_Co_learnEnd_72 rfl rfl ?_
        refine va_iald hx hb hK hP 5 3 rfl rfl (vq_hasr (by assumption) (by assumption)) d_Co_learnEnd_73 ?_
        refine lv_iconst (v := 2) hx hb d_Co_learnEnd_74 (by decide) ?_
        refine lv_idiv hx hb d_Co_learnEnd_75 (by decide) ?_
        refine va_iast hx hb hK hP hD hS 5 3 rfl rfl (vq_hasr (by assumption) (by assumption)) d_Co_learnEnd_76 (fun H locs hP hD hS => ?_)
        have hP : va_P D vwCl [(qc, k_Co qg ad), (qg, k_Sc g), (ad 0, .inl (ca 0, 367, .inl (upd (upd (x 0) (q).toNatClampNeg (((x 0) (q).toNatClampNeg) + (((w + 1) - r_5) / 2))) (q).toNatClampNeg (((upd (x 0) (q).toNatClampNeg (((x 0) (q).toNatClampNeg) + (((w + 1) - r_5) / 2))) (q).toNatClampNeg) / 2)))), (ad 1, .inl (ca 1, 367, .inl (x 1))), (ad 2, .inl (ca 2, 367, .inl (x 2))), (ad 3, .inl (ca 3, 367, .inl (upd (x 3) (q).toNatClampNeg (((x 3) (q).toNatClampNeg) / 2))))] H := hP
        have hD : va_D A [(qc, k_Co qg ad), (qg, k_Sc g), (ad 0, .inl (ca 0, 367, .inl (upd (upd (x 0) (q).toNatClampNeg (((x 0) (q).toNatClampNeg) + (((w + 1) - r_5) / 2))) (q).toNatClampNeg (((upd (x 0) (q).toNatClampNeg (((x 0) (q).toNatClampNeg) + (((w + 1) - r_5) / 2))) (q).toNatClampNeg) / 2)))), (ad 1, .inl (ca 1, 367, .inl (x 1))), (ad 2, .inl (ca 2, 367, .inl (x 2))), (ad 3, .inl (ca 3, 367, .inl (upd (x 3) (q).toNatClampNeg (((x 3) (q).toNatClampNeg) / 2))))] := hD
        refine lv_aload_n hx hb d_Co_learnEnd_77 rfl (lv_at hl 0 rfl) ?_
        refine va_get (D := D) (ci := 4) (v := .ref (ad 1)) (C := R_Co) (T := T_Co) (N := 5) hx hb hu in_Co hown hK hP 0 rfl rfl 2 (by decide) (hu _ hw_126) (fun _ h9 => h9) rfl d_Co_learnEnd_78 ?_
        refine lv_iload_n hx hb d_Co_learnEnd_81 rfl (lv_at hl 1 rfl) ?_
        refine lv_dup2_11 hx hb d_Co_learnEnd_82 rfl rfl ?_
        refine va_iald hx hb hK hP 3 1 rfl rfl (vq_hasr (by assumption) (by assumption)) d_Co_learnEnd_83 ?_
        refine lv_iconst (v := 2) hx hb d_Co_learnEnd_84 (by decide) ?_
        refine lv_idiv hx hb d_Co_learnEnd_85 (by decide) ?_
        refine va_iast hx hb hK hP hD hS 3 1 rfl rfl (vq_hasr (by assumption) (by assumption)) d_Co_learnEnd_86 (fun H locs hP hD hS => ?_)
        have hP : va_P D vwCl [(qc, k_Co qg ad), (qg, k_Sc g), (ad 0, .inl (ca 0, 367, .inl (upd (upd (x 0) (q).toNatClampNeg (((x 0) (q).toNatClampNeg) + (((w + 1) - r_5) / 2))) (q).toNatClampNeg (((upd (x 0) (q).toNatClampNeg (((x 0) (q).toNatClampNeg) + (((w + 1) - r_5) / 2))) (q).toNatClampNeg) / 2)))), (ad 1, .inl (ca 1, 367, .inl (upd (x 1) (q).toNatClampNeg (((x 1) (q).toNatClampNeg) / 2)))), (ad 2, .inl (ca 2, 367, .inl (x 2))), (ad 3, .inl (ca 3, 367, .inl (upd (x 3) (q).toNatClampNeg (((x 3) (q).toNatClampNeg) / 2))))] H := hP
        have hD : va_D A [(qc, k_Co qg ad), (qg, k_Sc g), (ad 0, .inl (ca 0, 367, .inl (upd (upd (x 0) (q).toNatClampNeg (((x 0) (q).toNatClampNeg) + (((w + 1) - r_5) / 2))) (q).toNatClampNeg (((upd (x 0) (q).toNatClampNeg (((x 0) (q).toNatClampNeg) + (((w + 1) - r_5) / 2))) (q).toNatClampNeg) / 2)))), (ad 1, .inl (ca 1, 367, .inl (upd (x 1) (q).toNatClampNeg (((x 1) (q).toNatClampNeg) / 2)))), (ad 2, .inl (ca 2, 367, .inl (x 2))), (ad 3, .inl (ca 3, 367, .inl (upd (x 3) (q).toNatClampNeg (((x 3) (q).toNatClampNeg) / 2))))] := hD
        refine lv_aload_n hx hb d_Co_learnEnd_87 rfl (lv_at hl 0 rfl) ?_
        refine va_get (D := D) (ci := 4) (v := .ref (ad 3)) (C := R_Co) (T := T_Co) (N := 5) hx hb hu in_Co hown hK hP 0 rfl rfl 4 (by decide) (hu _ hw_128) (fun _ h9 => h9) rfl d_Co_learnEnd_88 ?_
        refine lv_iload_n hx hb d_Co_learnEnd_91 rfl (lv_at hl 1 rfl) ?_
        refine lv_dup2_11 hx hb d_Co_learnEnd_92 rfl rfl ?_
        refine va_iald hx hb hK hP 5 3 rfl rfl (vq_hasr (by assumption) (by assumption)) d_Co_learnEnd_93 ?_
        refine lv_iconst (v := 1) hx hb d_Co_learnEnd_94 (by decide) ?_
        refine lv_iadd hx hb d_Co_learnEnd_95 ?_
        refine va_iast hx hb hK hP hD hS 5 3 rfl rfl (vq_hasr (by assumption) (by assumption)) d_Co_learnEnd_96 (fun H locs hP hD hS => ?_)
        have hP : va_P D vwCl [(qc, k_Co qg ad), (qg, k_Sc g), (ad 0, .inl (ca 0, 367, .inl (upd (upd (x 0) (q).toNatClampNeg (((x 0) (q).toNatClampNeg) + (((w + 1) - r_5) / 2))) (q).toNatClampNeg (((upd (x 0) (q).toNatClampNeg (((x 0) (q).toNatClampNeg) + (((w + 1) - r_5) / 2))) (q).toNatClampNeg) / 2)))), (ad 1, .inl (ca 1, 367, .inl (upd (x 1) (q).toNatClampNeg (((x 1) (q).toNatClampNeg) / 2)))), (ad 2, .inl (ca 2, 367, .inl (x 2))), (ad 3, .inl (ca 3, 367, .inl (upd (upd (x 3) (q).toNatClampNeg (((x 3) (q).toNatClampNeg) / 2)) (q).toNatClampNeg (((upd (x 3) (q).toNatClampNeg (((x 3) (q).toNatClampNeg) / 2)) (q).toNatClampNeg) + 1))))] H := hP
        have hD : va_D A [(qc, k_Co qg ad), (qg, k_Sc g), (ad 0, .inl (ca 0, 367, .inl (upd (upd (x 0) (q).toNatClampNeg (((x 0) (q).toNatClampNeg) + (((w + 1) - r_5) / 2))) (q).toNatClampNeg (((upd (x 0) (q).toNatClampNeg (((x 0) (q).toNatClampNeg) + (((w + 1) - r_5) / 2))) (q).toNatClampNeg) / 2)))), (ad 1, .inl (ca 1, 367, .inl (upd (x 1) (q).toNatClampNeg (((x 1) (q).toNatClampNeg) / 2)))), (ad 2, .inl (ca 2, 367, .inl (x 2))), (ad 3, .inl (ca 3, 367, .inl (upd (upd (x 3) (q).toNatClampNeg (((x 3) (q).toNatClampNeg) / 2)) (q).toNatClampNeg (((upd (x 3) (q).toNatClampNeg (((x 3) (q).toNatClampNeg) / 2)) (q).toNatClampNeg) + 1))))] := hD
        have hP9 : va_P D vwCl ([(qc, k_Co qg ad), (qg, k_Sc g), (ad 0, .inl (ca 0, 367, .inl ((mkx (upd (upd (x 0) (q).toNatClampNeg (((x 0) (q).toNatClampNeg) + (((w + 1) - r_5) / 2))) (q).toNatClampNeg (((upd (x 0) (q).toNatClampNeg (((x 0) (q).toNatClampNeg) + (((w + 1) - r_5) / 2))) (q).toNatClampNeg) / 2)) (upd (x 1) (q).toNatClampNeg (((x 1) (q).toNatClampNeg) / 2)) (x 2) (upd (upd (x 3) (q).toNatClampNeg (((x 3) (q).toNatClampNeg) / 2)) (q).toNatClampNeg (((upd (x 3) (q).toNatClampNeg (((x 3) (q).toNatClampNeg) / 2)) (q).toNatClampNeg) + 1))) 0))), (ad 1, .inl (ca 1, 367, .inl ((mkx (upd (upd (x 0) (q).toNatClampNeg (((x 0) (q).toNatClampNeg) + (((w + 1) - r_5) / 2))) (q).toNatClampNeg (((upd (x 0) (q).toNatClampNeg (((x 0) (q).toNatClampNeg) + (((w + 1) - r_5) / 2))) (q).toNatClampNeg) / 2)) (upd (x 1) (q).toNatClampNeg (((x 1) (q).toNatClampNeg) / 2)) (x 2) (upd (upd (x 3) (q).toNatClampNeg (((x 3) (q).toNatClampNeg) / 2)) (q).toNatClampNeg (((upd (x 3) (q).toNatClampNeg (((x 3) (q).toNatClampNeg) / 2)) (q).toNatClampNeg) + 1))) 1))), (ad 2, .inl (ca 2, 367, .inl ((mkx (upd (upd (x 0) (q).toNatClampNeg (((x 0) (q).toNatClampNeg) + (((w + 1) - r_5) / 2))) (q).toNatClampNeg (((upd (x 0) (q).toNatClampNeg (((x 0) (q).toNatClampNeg) + (((w + 1) - r_5) / 2))) (q).toNatClampNeg) / 2)) (upd (x 1) (q).toNatClampNeg (((x 1) (q).toNatClampNeg) / 2)) (x 2) (upd (upd (x 3) (q).toNatClampNeg (((x 3) (q).toNatClampNeg) / 2)) (q).toNatClampNeg (((upd (x 3) (q).toNatClampNeg (((x 3) (q).toNatClampNeg) / 2)) (q).toNatClampNeg) + 1))) 2))), (ad 3, .inl (ca 3, 367, .inl ((mkx (upd (upd (x 0) (q).toNatClampNeg (((x 0) (q).toNatClampNeg) + (((w + 1) - r_5) / 2))) (q).toNatClampNeg (((upd (x 0) (q).toNatClampNeg (((x 0) (q).toNatClampNeg) + (((w + 1) - r_5) / 2))) (q).toNatClampNeg) / 2)) (upd (x 1) (q).toNatClampNeg (((x 1) (q).toNatClampNeg) / 2)) (x 2) (upd (upd (x 3) (q).toNatClampNeg (((x 3) (q).toNatClampNeg) / 2)) (q).toNatClampNeg (((upd (x 3) (q).toNatClampNeg (((x 3) (q).toNatClampNeg) / 2)) (q).toNatClampNeg) + 1))) 3)))]) H := hP.sub [0, 1, 2, 3, 4, 5] rfl
        have hD9 : va_D A ([(qc, k_Co qg ad), (qg, k_Sc g), (ad 0, .inl (ca 0, 367, .inl ((mkx (upd (upd (x 0) (q).toNatClampNeg (((x 0) (q).toNatClampNeg) + (((w + 1) - r_5) / 2))) (q).toNatClampNeg (((upd (x 0) (q).toNatClampNeg (((x 0) (q).toNatClampNeg) + (((w + 1) - r_5) / 2))) (q).toNatClampNeg) / 2)) (upd (x 1) (q).toNatClampNeg (((x 1) (q).toNatClampNeg) / 2)) (x 2) (upd (upd (x 3) (q).toNatClampNeg (((x 3) (q).toNatClampNeg) / 2)) (q).toNatClampNeg (((upd (x 3) (q).toNatClampNeg (((x 3) (q).toNatClampNeg) / 2)) (q).toNatClampNeg) + 1))) 0))), (ad 1, .inl (ca 1, 367, .inl ((mkx (upd (upd (x 0) (q).toNatClampNeg (((x 0) (q).toNatClampNeg) + (((w + 1) - r_5) / 2))) (q).toNatClampNeg (((upd (x 0) (q).toNatClampNeg (((x 0) (q).toNatClampNeg) + (((w + 1) - r_5) / 2))) (q).toNatClampNeg) / 2)) (upd (x 1) (q).toNatClampNeg (((x 1) (q).toNatClampNeg) / 2)) (x 2) (upd (upd (x 3) (q).toNatClampNeg (((x 3) (q).toNatClampNeg) / 2)) (q).toNatClampNeg (((upd (x 3) (q).toNatClampNeg (((x 3) (q).toNatClampNeg) / 2)) (q).toNatClampNeg) + 1))) 1))), (ad 2, .inl (ca 2, 367, .inl ((mkx (upd (upd (x 0) (q).toNatClampNeg (((x 0) (q).toNatClampNeg) + (((w + 1) - r_5) / 2))) (q).toNatClampNeg (((upd (x 0) (q).toNatClampNeg (((x 0) (q).toNatClampNeg) + (((w + 1) - r_5) / 2))) (q).toNatClampNeg) / 2)) (upd (x 1) (q).toNatClampNeg (((x 1) (q).toNatClampNeg) / 2)) (x 2) (upd (upd (x 3) (q).toNatClampNeg (((x 3) (q).toNatClampNeg) / 2)) (q).toNatClampNeg (((upd (x 3) (q).toNatClampNeg (((x 3) (q).toNatClampNeg) / 2)) (q).toNatClampNeg) + 1))) 2))), (ad 3, .inl (ca 3, 367, .inl ((mkx (upd (upd (x 0) (q).toNatClampNeg (((x 0) (q).toNatClampNeg) + (((w + 1) - r_5) / 2))) (q).toNatClampNeg (((upd (x 0) (q).toNatClampNeg (((x 0) (q).toNatClampNeg) + (((w + 1) - r_5) / 2))) (q).toNatClampNeg) / 2)) (upd (x 1) (q).toNatClampNeg (((x 1) (q).toNatClampNeg) / 2)) (x 2) (upd (upd (x 3) (q).toNatClampNeg (((x 3) (q).toNatClampNeg) / 2)) (q).toNatClampNeg (((upd (x 3) (q).toNatClampNeg (((x 3) (q).toNatClampNeg) / 2)) (q).toNatClampNeg) + 1))) 3)))]) := hD.sub [0, 1, 2, 3, 4, 5] (by decide) rfl
        exact W.vret hx hb hr (fun t ht hW => ⟨⟨(mkx (upd (upd (x 0) (q).toNatClampNeg (((x 0) (q).toNatClampNeg) + (((w + 1) - r_5) / 2))) (q).toNatClampNeg (((upd (x 0) (q).toNatClampNeg (((x 0) (q).toNatClampNeg) + (((w + 1) - r_5) / 2))) (q).toNatClampNeg) / 2)) (upd (x 1) (q).toNatClampNeg (((x 1) (q).toNatClampNeg) / 2)) (x 2) (upd (upd (x 3) (q).toNatClampNeg (((x 3) (q).toNatClampNeg) / 2)) (q).toNatClampNeg (((upd (x 3) (q).toNatClampNeg (((x 3) (q).toNatClampNeg) / 2)) (q).toNatClampNeg) + 1))), rfl, by rw [f_learnEnd, e_1, f_learnEnd_2, if_neg c_3, if_pos c_4, e_5, f_learnEnd_6, if_pos c_7], by rw [ht]; exact hP9, va_K.moved hW.alike (hK.sub [0, 1, 2, 3] rfl), hD9⟩, hS.F ht⟩) hS.2.2 d_Co_learnEnd_97
    · refine lv_aload_n hx hb d_Co_learnEnd_12 rfl (lv_at hl 0 rfl) ?_
      refine va_get (D := D) (ci := 4) (v := .ref (ad 1)) (C := R_Co) (T := T_Co) (N := 5) hx hb hu in_Co hown hK hP 0 rfl rfl 2 (by decide) (hu _ hw_126) (fun _ h9 => h9) rfl d_Co_learnEnd_13 ?_
      refine lv_iload_n hx hb d_Co_learnEnd_16 rfl (lv_at hl 1 rfl) ?_
      refine lv_dup2_11 hx hb d_Co_learnEnd_17 rfl rfl ?_
      refine va_iald hx hb hK hP 3 1 rfl rfl (vq_hasr (by assumption) (by assumption)) d_Co_learnEnd_18 ?_
      refine lv_iconst (v := 1) hx hb d_Co_learnEnd_19 (by decide) ?_
      refine lv_iadd hx hb d_Co_learnEnd_20 ?_
      refine va_iast hx hb hK hP hD hS 3 1 rfl rfl (vq_hasr (by assumption) (by assumption)) d_Co_learnEnd_21 (fun H locs hP hD hS => ?_)
      have hP : va_P D vwCl [(qc, k_Co qg ad), (qg, k_Sc g), (ad 0, .inl (ca 0, 367, .inl (x 0))), (ad 1, .inl (ca 1, 367, .inl (upd (x 1) (q).toNatClampNeg (((x 1) (q).toNatClampNeg) + 1)))), (ad 2, .inl (ca 2, 367, .inl (x 2))), (ad 3, .inl (ca 3, 367, .inl (x 3)))] H := hP
      have hD : va_D A [(qc, k_Co qg ad), (qg, k_Sc g), (ad 0, .inl (ca 0, 367, .inl (x 0))), (ad 1, .inl (ca 1, 367, .inl (upd (x 1) (q).toNatClampNeg (((x 1) (q).toNatClampNeg) + 1)))), (ad 2, .inl (ca 2, 367, .inl (x 2))), (ad 3, .inl (ca 3, 367, .inl (x 3)))] := hD
      refine lv_aload_n hx hb d_Co_learnEnd_22 rfl (lv_at hl 0 rfl) ?_
      refine va_get (D := D) (ci := 4) (v := .ref (ad 0)) (C := R_Co) (T := T_Co) (N := 5) hx hb hu in_Co hown hK hP 0 rfl rfl 1 (by decide) (hu _ hw_125) (fun _ h9 => h9) rfl d_Co_learnEnd_23 ?_
      refine lv_iload_n hx hb d_Co_learnEnd_26 rfl (lv_at hl 1 rfl) ?_
      refine lv_dup2_11 hx hb d_Co_learnEnd_27 rfl rfl ?_
      refine va_iald hx hb hK hP 2 0 rfl rfl (vq_hasr (by assumption) (by assumption)) d_Co_learnEnd_28 ?_
      refine lv_iload_n hx hb d_Co_learnEnd_29 rfl (lv_at hl 3 rfl) ?_
      refine lv_iconst (v := 1) hx hb d_Co_learnEnd_30 (by decide) ?_
      refine lv_iadd hx hb d_Co_learnEnd_31 ?_
      refine lv_iload_n hx hb d_Co_learnEnd_32 rfl (lv_at hl 1 rfl) ?_
      refine vq_i (wr := [(qc, k_Co qg ad), (qg, k_Sc g), (ad 0, .inl (ca 0, 367, .inl (x 0))), (ad 1, .inl (ca 1, 367, .inl (upd (x 1) (q).toNatClampNeg (((x 1) (q).toNatClampNeg) + 1)))), (ad 2, .inl (ca 2, 367, .inl (x 2))), (ad 3, .inl (ca 3, 367, .inl (x 3)))]) (va_runS (As := [.int q]) (rest := [.int (w + 1), .int ((x 0) (q).toNatClampNeg), .int q, .ref (ad 0)]) ⟨hx, hb, hml, hown, hts⟩ (c_likeness l D sa H.size q) (va_cwS 1 hts (vg_S (fun w h => List.mem_cons_of_mem _ h) hw_402 hw_403 hw_36 hw_404) rfl rfl rfl (by decide +kernel) ⟨Nat.le_of_ble_eq_true rfl, Nat.le_of_ble_eq_true rfl⟩) (vq_pS hE hK hP hD [] [] rfl (by decide) rfl) rfl rfl hl.1 rfl (lv_room (Nat.le_of_ble_eq_true rfl)) d_Co_learnEnd_33 ⟨Nat.le_of_ble_eq_true rfl, Nat.le_of_ble_eq_true rfl⟩) hP hD hS hA [] [0, 1, 2, 3, 4, 5] rfl rfl (by decide) (by decide) (fun r_8 u_8 H locs e_8 hP hD hS => ?_)
      have hP : va_P D vwCl [(qc, k_Co qg ad), (qg, k_Sc g), (ad 0, .inl (ca 0, 367, .inl (x 0))), (ad 1, .inl (ca 1, 367, .inl (upd (x 1) (q).toNatClampNeg (((x 1) (q).toNatClampNeg) + 1)))), (ad 2, .inl (ca 2, 367, .inl (x 2))), (ad 3, .inl (ca 3, 367, .inl (x 3)))] H := hP
      have hD : va_D A [(qc, k_Co qg ad), (qg, k_Sc g), (ad 0, .inl (ca 0, 367, .inl (x 0))), (ad 1, .inl (ca 1, 367, .inl (upd (x 1) (q).toNatClampNeg (((x 1) (q).toNatClampNeg) + 1)))), (ad 2, .inl (ca 2, 367, .inl (x 2))), (ad 3, .inl (ca 3, 367, .inl (x 3)))] := hD
      refine lv_isub hx hb d_Co_learnEnd_36 ?_
      refine lv_iconst (v := 2) hx hb d_Co_learnEnd_37 (by decide) ?_
      refine lv_idiv hx hb d_Co_learnEnd_38 (by decide) ?_
      refine lv_iadd hx hb d_Co_learnEnd_39 ?_
      refine va_iast hx hb hK hP hD hS 2 0 rfl rfl (vq_hasr (by assumption) (by assumption)) d_Co_learnEnd_40 (fun H locs hP hD hS => ?_)
      have hP : va_P D vwCl [(qc, k_Co qg ad), (qg, k_Sc g), (ad 0, .inl (ca 0, 367, .inl (upd (x 0) (q).toNatClampNeg (((x 0) (q).toNatClampNeg) + (((w + 1) - r_8) / 2))))), (ad 1, .inl (ca 1, 367, .inl (upd (x 1) (q).toNatClampNeg (((x 1) (q).toNatClampNeg) + 1)))), (ad 2, .inl (ca 2, 367, .inl (x 2))), (ad 3, .inl (ca 3, 367, .inl (x 3)))] H := hP
      have hD : va_D A [(qc, k_Co qg ad), (qg, k_Sc g), (ad 0, .inl (ca 0, 367, .inl (upd (x 0) (q).toNatClampNeg (((x 0) (q).toNatClampNeg) + (((w + 1) - r_8) / 2))))), (ad 1, .inl (ca 1, 367, .inl (upd (x 1) (q).toNatClampNeg (((x 1) (q).toNatClampNeg) + 1)))), (ad 2, .inl (ca 2, 367, .inl (x 2))), (ad 3, .inl (ca 3, 367, .inl (x 3)))] := hD
      refine lv_aload_n hx hb d_Co_learnEnd_41 rfl (lv_at hl 0 rfl) ?_
      refine va_get (D := D) (ci := 4) (v := .ref (ad 3)) (C := R_Co) (T := T_Co) (N := 5) hx hb hu in_Co hown hK hP 0 rfl rfl 4 (by decide) (hu _ hw_128) (fun _ h9 => h9) rfl d_Co_learnEnd_42 ?_
      refine lv_iload_n hx hb d_Co_learnEnd_45 rfl (lv_at hl 1 rfl) ?_
      refine va_iald hx hb hK hP 5 3 rfl rfl (vq_hasr (by assumption) (by assumption)) d_Co_learnEnd_46 ?_
      refine lv_aload_n hx hb d_Co_learnEnd_47 rfl (lv_at hl 0 rfl) ?_
      refine va_get (D := D) (ci := 4) (v := .ref qg) (C := R_Co) (T := T_Co) (N := 5) hx hb hu in_Co hown hK hP 0 rfl rfl 0 (by decide) (hu _ hw_124) (fun _ h9 => h9) rfl d_Co_learnEnd_48 ?_
      refine va_get (D := D) (ci := 1) (v := .int (g 7)) (C := R_Sc) (T := T_Sc) (N := 8) hx hb hu in_Sc hown hK hP 1 rfl rfl 7 (by decide) (hu _ hw_99) (fun _ h9 => h9) rfl d_Co_learnEnd_51 ?_
      refine lv_icmp_ne (tgt := 87) hx hb d_Co_learnEnd_54 (by decide) (fun c_10 => ?_) (fun c_10 => ?_)
      · refine lv_aload_n hx hb d_Co_learnEnd_87 rfl (lv_at hl 0 rfl) ?_
        refine va_get (D := D) (ci := 4) (v := .ref (ad 3)) (C := R_Co) (T := T_Co) (N := 5) hx hb hu in_Co hown hK hP 0 rfl rfl 4 (by decide) (hu _ hw_128) (fun _ h9 => h9) rfl d_Co_learnEnd_88 ?_
        refine lv_iload_n hx hb d_Co_learnEnd_91 rfl (lv_at hl 1 rfl) ?_
        refine lv_dup2_11 hx hb d_Co_learnEnd_92 rfl rfl ?_
        refine va_iald hx hb hK hP 5 3 rfl rfl (vq_hasr (by assumption) (by assumption)) d_Co_learnEnd_93 ?_
        refine lv_iconst (v := 1) hx hb d_Co_learnEnd_94 (by decide) ?_
        refine lv_iadd hx hb d_Co_learnEnd_95 ?_
        refine va_iast hx hb hK hP hD hS 5 3 rfl rfl (vq_hasr (by assumption) (by assumption)) d_Co_learnEnd_96 (fun H locs hP hD hS => ?_)
        have hP : va_P D vwCl [(qc, k_Co qg ad), (qg, k_Sc g), (ad 0, .inl (ca 0, 367, .inl (upd (x 0) (q).toNatClampNeg (((x 0) (q).toNatClampNeg) + (((w + 1) - r_8) / 2))))), (ad 1, .inl (ca 1, 367, .inl (upd (x 1) (q).toNatClampNeg (((x 1) (q).toNatClampNeg) + 1)))), (ad 2, .inl (ca 2, 367, .inl (x 2))), (ad 3, .inl (ca 3, 367, .inl (upd (x 3) (q).toNatClampNeg (((x 3) (q).toNatClampNeg) + 1))))] H := hP
        have hD : va_D A [(qc, k_Co qg ad), (qg, k_Sc g), (ad 0, .inl (ca 0, 367, .inl (upd (x 0) (q).toNatClampNeg (((x 0) (q).toNatClampNeg) + (((w + 1) - r_8) / 2))))), (ad 1, .inl (ca 1, 367, .inl (upd (x 1) (q).toNatClampNeg (((x 1) (q).toNatClampNeg) + 1)))), (ad 2, .inl (ca 2, 367, .inl (x 2))), (ad 3, .inl (ca 3, 367, .inl (upd (x 3) (q).toNatClampNeg (((x 3) (q).toNatClampNeg) + 1))))] := hD
        have hP9 : va_P D vwCl ([(qc, k_Co qg ad), (qg, k_Sc g), (ad 0, .inl (ca 0, 367, .inl ((mkx (upd (x 0) (q).toNatClampNeg (((x 0) (q).toNatClampNeg) + (((w + 1) - r_8) / 2))) (upd (x 1) (q).toNatClampNeg (((x 1) (q).toNatClampNeg) + 1)) (x 2) (upd (x 3) (q).toNatClampNeg (((x 3) (q).toNatClampNeg) + 1))) 0))), (ad 1, .inl (ca 1, 367, .inl ((mkx (upd (x 0) (q).toNatClampNeg (((x 0) (q).toNatClampNeg) + (((w + 1) - r_8) / 2))) (upd (x 1) (q).toNatClampNeg (((x 1) (q).toNatClampNeg) + 1)) (x 2) (upd (x 3) (q).toNatClampNeg (((x 3) (q).toNatClampNeg) + 1))) 1))), (ad 2, .inl (ca 2, 367, .inl ((mkx (upd (x 0) (q).toNatClampNeg (((x 0) (q).toNatClampNeg) + (((w + 1) - r_8) / 2))) (upd (x 1) (q).toNatClampNeg (((x 1) (q).toNatClampNeg) + 1)) (x 2) (upd (x 3) (q).toNatClampNeg (((x 3) (q).toNatClampNeg) + 1))) 2))), (ad 3, .inl (ca 3, 367, .inl ((mkx (upd (x 0) (q).toNatClampNeg (((x 0) (q).toNatClampNeg) + (((w + 1) - r_8) / 2))) (upd (x 1) (q).toNatClampNeg (((x 1) (q).toNatClampNeg) + 1)) (x 2) (upd (x 3) (q).toNatClampNeg (((x 3) (q).toNatClampNeg) + 1))) 3)))]) H := hP.sub [0, 1, 2, 3, 4, 5] rfl
        have hD9 : va_D A ([(qc, k_Co qg ad), (qg, k_Sc g), (ad 0, .inl (ca 0, 367, .inl ((mkx (upd (x 0) (q).toNatClampNeg (((x 0) (q).toNatClampNeg) + (((w + 1) - r_8) / 2))) (upd (x 1) (q).toNatClampNeg (((x 1) (q).toNatClampNeg) + 1)) (x 2) (upd (x 3) (q).toNatClampNeg (((x 3) (q).toNatClampNeg) + 1))) 0))), (ad 1, .inl (ca 1, 367, .inl ((mkx (upd (x 0) (q).toNatClampNeg (((x 0) (q).toNatClampNeg) + (((w + 1) - r_8) / 2))) (upd (x 1) (q).toNatClampNeg (((x 1) (q).toNatClampNeg) + 1)) (x 2) (upd (x 3) (q).toNatClampNeg (((x 3) (q).toNatClampNeg) + 1))) 1))), (ad 2, .inl (ca 2, 367, .inl ((mkx (upd (x 0) (q).toNatClampNeg (((x 0) (q).toNatClampNeg) + (((w + 1) - r_8) / 2))) (upd (x 1) (q).toNatClampNeg (((x 1) (q).toNatClampNeg) + 1)) (x 2) (upd (x 3) (q).toNatClampNeg (((x 3) (q).toNatClampNeg) + 1))) 2))), (ad 3, .inl (ca 3, 367, .inl ((mkx (upd (x 0) (q).toNatClampNeg (((x 0) (q).toNatClampNeg) + (((w + 1) - r_8) / 2))) (upd (x 1) (q).toNatClampNeg (((x 1) (q).toNatClampNeg) + 1)) (x 2) (upd (x 3) (q).toNatClampNeg (((x 3) (q).toNatClampNeg) + 1))) 3)))]) := hD.sub [0, 1, 2, 3, 4, 5] (by decide) rfl
        exact W.vret hx hb hr (fun t ht hW => ⟨⟨(mkx (upd (x 0) (q).toNatClampNeg (((x 0) (q).toNatClampNeg) + (((w + 1) - r_8) / 2))) (upd (x 1) (q).toNatClampNeg (((x 1) (q).toNatClampNeg) + 1)) (x 2) (upd (x 3) (q).toNatClampNeg (((x 3) (q).toNatClampNeg) + 1))), rfl, by rw [f_learnEnd, e_1, f_learnEnd_2, if_neg c_3, if_neg c_4, e_8, f_learnEnd_9, if_neg c_10], by rw [ht]; exact hP9, va_K.moved hW.alike (hK.sub [0, 1, 2, 3] rfl), hD9⟩, hS.F ht⟩) hS.2.2 d_Co_learnEnd_97
      · refine lv_aload_n hx hb d_Co_learnEnd_57 rfl (lv_at hl 0 rfl) ?_
        refine va_get (D := D) (ci := 4) (v := .ref (ad 0)) (C := R_Co) (T := T_Co) (N := 5) hx hb hu in_Co hown hK hP 0 rfl rfl 1 (by decide) (hu _ hw_125) (fun _ h9 => h9) rfl d_Co_learnEnd_58 ?_
        refine lv_iload_n hx hb d_Co_learnEnd_61 rfl (lv_at hl 1 rfl) ?_
        refine lv_dup2_11 hx hb d_Co_learnEnd_62 rfl rfl ?_
        refine va_iald hx hb hK hP 2 0 rfl rfl (vq_hasr (by assumption) (by assumption)) d_Co_learnEnd_63 ?_
        refine lv_iconst (v := 2) hx hb d_Co_learnEnd_64 (by decide) ?_
        refine lv_idiv hx hb d_Co_learnEnd_65 (by decide) ?_
        refine va_iast hx hb hK hP hD hS 2 0 rfl rfl (vq_hasr (by assumption) (by assumption)) d_Co_learnEnd_66 (fun H locs hP hD hS => ?_)
        have hP : va_P D vwCl [(qc, k_Co qg ad), (qg, k_Sc g), (ad 0, .inl (ca 0, 367, .inl (upd (upd (x 0) (q).toNatClampNeg (((x 0) (q).toNatClampNeg) + (((w + 1) - r_8) / 2))) (q).toNatClampNeg (((upd (x 0) (q).toNatClampNeg (((x 0) (q).toNatClampNeg) + (((w + 1) - r_8) / 2))) (q).toNatClampNeg) / 2)))), (ad 1, .inl (ca 1, 367, .inl (upd (x 1) (q).toNatClampNeg (((x 1) (q).toNatClampNeg) + 1)))), (ad 2, .inl (ca 2, 367, .inl (x 2))), (ad 3, .inl (ca 3, 367, .inl (x 3)))] H := hP
        have hD : va_D A [(qc, k_Co qg ad), (qg, k_Sc g), (ad 0, .inl (ca 0, 367, .inl (upd (upd (x 0) (q).toNatClampNeg (((x 0) (q).toNatClampNeg) + (((w + 1) - r_8) / 2))) (q).toNatClampNeg (((upd (x 0) (q).toNatClampNeg (((x 0) (q).toNatClampNeg) + (((w + 1) - r_8) / 2))) (q).toNatClampNeg) / 2)))), (ad 1, .inl (ca 1, 367, .inl (upd (x 1) (q).toNatClampNeg (((x 1) (q).toNatClampNeg) + 1)))), (ad 2, .inl (ca 2, 367, .inl (x 2))), (ad 3, .inl (ca 3, 367, .inl (x 3)))] := hD
        refine lv_aload_n hx hb d_Co_learnEnd_67 rfl (lv_at hl 0 rfl) ?_
        refine va_get (D := D) (ci := 4) (v := .ref (ad 3)) (C := R_Co) (T := T_Co) (N := 5) hx hb hu in_Co hown hK hP 0 rfl rfl 4 (by decide) (hu _ hw_128) (fun _ h9 => h9) rfl d_Co_learnEnd_68 ?_
        refine lv_iload_n hx hb d_Co_learnEnd_71 rfl (lv_at hl 1 rfl) ?_
        refine lv_dup2_11 hx hb d_Co_learnEnd_72 rfl rfl ?_
        refine va_iald hx hb hK hP 5 3 rfl rfl (vq_hasr (by assumption) (by assumption)) d_Co_learnEnd_73 ?_
        refine lv_iconst (v := 2) hx hb d_Co_learnEnd_74 (by decide) ?_
        refine lv_idiv hx hb d_Co_learnEnd_75 (by decide) ?_
        refine va_iast hx hb hK hP hD hS 5 3 rfl rfl (vq_hasr (by assumption) (by assumption)) d_Co_learnEnd_76 (fun H locs hP hD hS => ?_)
        have hP : va_P D vwCl [(qc, k_Co qg ad), (qg, k_Sc g), (ad 0, .inl (ca 0, 367, .inl (upd (upd (x 0) (q).toNatClampNeg (((x 0) (q).toNatClampNeg) + (((w + 1) - r_8) / 2))) (q).toNatClampNeg (((upd (x 0) (q).toNatClampNeg (((x 0) (q).toNatClampNeg) + (((w + 1) - r_8) / 2))) (q).toNatClampNeg) / 2)))), (ad 1, .inl (ca 1, 367, .inl (upd (x 1) (q).toNatClampNeg (((x 1) (q).toNatClampNeg) + 1)))), (ad 2, .inl (ca 2, 367, .inl (x 2))), (ad 3, .inl (ca 3, 367, .inl (upd (x 3) (q).toNatClampNeg (((x 3) (q).toNatClampNeg) / 2))))] H := hP
        have hD : va_D A [(qc, k_Co qg ad), (qg, k_Sc g), (ad 0, .inl (ca 0, 367, .inl (upd (upd (x 0) (q).toNatClampNeg (((x 0) (q).toNatClampNeg) + (((w + 1) - r_8) / 2))) (q).toNatClampNeg (((upd (x 0) (q).toNatClampNeg (((x 0) (q).toNatClampNeg) + (((w + 1) - r_8) / 2))) (q).toNatClampNeg) / 2)))), (ad 1, .inl (ca 1, 367, .inl (upd (x 1) (q).toNatClampNeg (((x 1) (q).toNatClampNeg) + 1)))), (ad 2, .inl (ca 2, 367, .inl (x 2))), (ad 3, .inl (ca 3, 367, .inl (upd (x 3) (q).toNatClampNeg (((x 3) (q).toNatClampNeg) / 2))))] := hD
        refine lv_aload_n hx hb d_Co_learnEnd_77 rfl (lv_at hl 0 rfl) ?_
        refine va_get (D := D) (ci := 4) (v := .ref (ad 1)) (C := R_Co) (T := T_Co) (N := 5) hx hb hu in_Co hown hK hP 0 rfl rfl 2 (by decide) (hu _ hw_126) (fun _ h9 => h9) rfl d_Co_learnEnd_78 ?_
        refine lv_iload_n hx hb d_Co_learnEnd_81 rfl (lv_at hl 1 rfl) ?_
        refine lv_dup2_11 hx hb d_Co_learnEnd_82 rfl rfl ?_
        refine va_iald hx hb hK hP 3 1 rfl rfl (vq_hasr (by assumption) (by assumption)) d_Co_learnEnd_83 ?_
        refine lv_iconst (v := 2) hx hb d_Co_learnEnd_84 (by decide) ?_
        refine lv_idiv hx hb d_Co_learnEnd_85 (by decide) ?_
        refine va_iast hx hb hK hP hD hS 3 1 rfl rfl (vq_hasr (by assumption) (by assumption)) d_Co_learnEnd_86 (fun H locs hP hD hS => ?_)
        have hP : va_P D vwCl [(qc, k_Co qg ad), (qg, k_Sc g), (ad 0, .inl (ca 0, 367, .inl (upd (upd (x 0) (q).toNatClampNeg (((x 0) (q).toNatClampNeg) + (((w + 1) - r_8) / 2))) (q).toNatClampNeg (((upd (x 0) (q).toNatClampNeg (((x 0) (q).toNatClampNeg) + (((w + 1) - r_8) / 2))) (q).toNatClampNeg) / 2)))), (ad 1, .inl (ca 1, 367, .inl (upd (upd (x 1) (q).toNatClampNeg (((x 1) (q).toNatClampNeg) + 1)) (q).toNatClampNeg (((upd (x 1) (q).toNatClampNeg (((x 1) (q).toNatClampNeg) + 1)) (q).toNatClampNeg) / 2)))), (ad 2, .inl (ca 2, 367, .inl (x 2))), (ad 3, .inl (ca 3, 367, .inl (upd (x 3) (q).toNatClampNeg (((x 3) (q).toNatClampNeg) / 2))))] H := hP
        have hD : va_D A [(qc, k_Co qg ad), (qg, k_Sc g), (ad 0, .inl (ca 0, 367, .inl (upd (upd (x 0) (q).toNatClampNeg (((x 0) (q).toNatClampNeg) + (((w + 1) - r_8) / 2))) (q).toNatClampNeg (((upd (x 0) (q).toNatClampNeg (((x 0) (q).toNatClampNeg) + (((w + 1) - r_8) / 2))) (q).toNatClampNeg) / 2)))), (ad 1, .inl (ca 1, 367, .inl (upd (upd (x 1) (q).toNatClampNeg (((x 1) (q).toNatClampNeg) + 1)) (q).toNatClampNeg (((upd (x 1) (q).toNatClampNeg (((x 1) (q).toNatClampNeg) + 1)) (q).toNatClampNeg) / 2)))), (ad 2, .inl (ca 2, 367, .inl (x 2))), (ad 3, .inl (ca 3, 367, .inl (upd (x 3) (q).toNatClampNeg (((x 3) (q).toNatClampNeg) / 2))))] := hD
        refine lv_aload_n hx hb d_Co_learnEnd_87 rfl (lv_at hl 0 rfl) ?_
        refine va_get (D := D) (ci := 4) (v := .ref (ad 3)) (C := R_Co) (T := T_Co) (N := 5) hx hb hu in_Co hown hK hP 0 rfl rfl 4 (by decide) (hu _ hw_128) (fun _ h9 => h9) rfl d_Co_learnEnd_88 ?_
        refine lv_iload_n hx hb d_Co_learnEnd_91 rfl (lv_at hl 1 rfl) ?_
        refine lv_dup2_11 hx hb d_Co_learnEnd_92 rfl rfl ?_
        refine va_iald hx hb hK hP 5 3 rfl rfl (vq_hasr (by assumption) (by assumption)) d_Co_learnEnd_93 ?_
        refine lv_iconst (v := 1) hx hb d_Co_learnEnd_94 (by decide) ?_
        refine lv_iadd hx hb d_Co_learnEnd_95 ?_
        refine va_iast hx hb hK hP hD hS 5 3 rfl rfl (vq_hasr (by assumption) (by assumption)) d_Co_learnEnd_96 (fun H locs hP hD hS => ?_)
        have hP : va_P D vwCl [(qc, k_Co qg ad), (qg, k_Sc g), (ad 0, .inl (ca 0, 367, .inl (upd (upd (x 0) (q).toNatClampNeg (((x 0) (q).toNatClampNeg) + (((w + 1) - r_8) / 2))) (q).toNatClampNeg (((upd (x 0) (q).toNatClampNeg (((x 0) (q).toNatClampNeg) + (((w + 1) - r_8) / 2))) (q).toNatClampNeg) / 2)))), (ad 1, .inl (ca 1, 367, .inl (upd (upd (x 1) (q).toNatClampNeg (((x 1) (q).toNatClampNeg) + 1)) (q).toNatClampNeg (((upd (x 1) (q).toNatClampNeg (((x 1) (q).toNatClampNeg) + 1)) (q).toNatClampNeg) / 2)))), (ad 2, .inl (ca 2, 367, .inl (x 2))), (ad 3, .inl (ca 3, 367, .inl (upd (upd (x 3) (q).toNatClampNeg (((x 3) (q).toNatClampNeg) / 2)) (q).toNatClampNeg (((upd (x 3) (q).toNatClampNeg (((x 3) (q).toNatClampNeg) / 2)) (q).toNatClampNeg) + 1))))] H := hP
        have hD : va_D A [(qc, k_Co qg ad), (qg, k_Sc g), (ad 0, .inl (ca 0, 367, .inl (upd (upd (x 0) (q).toNatClampNeg (((x 0) (q).toNatClampNeg) + (((w + 1) - r_8) / 2))) (q).toNatClampNeg (((upd (x 0) (q).toNatClampNeg (((x 0) (q).toNatClampNeg) + (((w + 1) - r_8) / 2))) (q).toNatClampNeg) / 2)))), (ad 1, .inl (ca 1, 367, .inl (upd (upd (x 1) (q).toNatClampNeg (((x 1) (q).toNatClampNeg) + 1)) (q).toNatClampNeg (((upd (x 1) (q).toNatClampNeg (((x 1) (q).toNatClampNeg) + 1)) (q).toNatClampNeg) / 2)))), (ad 2, .inl (ca 2, 367, .inl (x 2))), (ad 3, .inl (ca 3, 367, .inl (upd (upd (x 3) (q).toNatClampNeg (((x 3) (q).toNatClampNeg) / 2)) (q).toNatClampNeg (((upd (x 3) (q).toNatClampNeg (((x 3) (q).toNatClampNeg) / 2)) (q).toNatClampNeg) + 1))))] := hD
        have hP9 : va_P D vwCl ([(qc, k_Co qg ad), (qg, k_Sc g), (ad 0, .inl (ca 0, 367, .inl ((mkx (upd (upd (x 0) (q).toNatClampNeg (((x 0) (q).toNatClampNeg) + (((w + 1) - r_8) / 2))) (q).toNatClampNeg (((upd (x 0) (q).toNatClampNeg (((x 0) (q).toNatClampNeg) + (((w + 1) - r_8) / 2))) (q).toNatClampNeg) / 2)) (upd (upd (x 1) (q).toNatClampNeg (((x 1) (q).toNatClampNeg) + 1)) (q).toNatClampNeg (((upd (x 1) (q).toNatClampNeg (((x 1) (q).toNatClampNeg) + 1)) (q).toNatClampNeg) / 2)) (x 2) (upd (upd (x 3) (q).toNatClampNeg (((x 3) (q).toNatClampNeg) / 2)) (q).toNatClampNeg (((upd (x 3) (q).toNatClampNeg (((x 3) (q).toNatClampNeg) / 2)) (q).toNatClampNeg) + 1))) 0))), (ad 1, .inl (ca 1, 367, .inl ((mkx (upd (upd (x 0) (q).toNatClampNeg (((x 0) (q).toNatClampNeg) + (((w + 1) - r_8) / 2))) (q).toNatClampNeg (((upd (x 0) (q).toNatClampNeg (((x 0) (q).toNatClampNeg) + (((w + 1) - r_8) / 2))) (q).toNatClampNeg) / 2)) (upd (upd (x 1) (q).toNatClampNeg (((x 1) (q).toNatClampNeg) + 1)) (q).toNatClampNeg (((upd (x 1) (q).toNatClampNeg (((x 1) (q).toNatClampNeg) + 1)) (q).toNatClampNeg) / 2)) (x 2) (upd (upd (x 3) (q).toNatClampNeg (((x 3) (q).toNatClampNeg) / 2)) (q).toNatClampNeg (((upd (x 3) (q).toNatClampNeg (((x 3) (q).toNatClampNeg) / 2)) (q).toNatClampNeg) + 1))) 1))), (ad 2, .inl (ca 2, 367, .inl ((mkx (upd (upd (x 0) (q).toNatClampNeg (((x 0) (q).toNatClampNeg) + (((w + 1) - r_8) / 2))) (q).toNatClampNeg (((upd (x 0) (q).toNatClampNeg (((x 0) (q).toNatClampNeg) + (((w + 1) - r_8) / 2))) (q).toNatClampNeg) / 2)) (upd (upd (x 1) (q).toNatClampNeg (((x 1) (q).toNatClampNeg) + 1)) (q).toNatClampNeg (((upd (x 1) (q).toNatClampNeg (((x 1) (q).toNatClampNeg) + 1)) (q).toNatClampNeg) / 2)) (x 2) (upd (upd (x 3) (q).toNatClampNeg (((x 3) (q).toNatClampNeg) / 2)) (q).toNatClampNeg (((upd (x 3) (q).toNatClampNeg (((x 3) (q).toNatClampNeg) / 2)) (q).toNatClampNeg) + 1))) 2))), (ad 3, .inl (ca 3, 367, .inl ((mkx (upd (upd (x 0) (q).toNatClampNeg (((x 0) (q).toNatClampNeg) + (((w + 1) - r_8) / 2))) (q).toNatClampNeg (((upd (x 0) (q).toNatClampNeg (((x 0) (q).toNatClampNeg) + (((w + 1) - r_8) / 2))) (q).toNatClampNeg) / 2)) (upd (upd (x 1) (q).toNatClampNeg (((x 1) (q).toNatClampNeg) + 1)) (q).toNatClampNeg (((upd (x 1) (q).toNatClampNeg (((x 1) (q).toNatClampNeg) + 1)) (q).toNatClampNeg) / 2)) (x 2) (upd (upd (x 3) (q).toNatClampNeg (((x 3) (q).toNatClampNeg) / 2)) (q).toNatClampNeg (((upd (x 3) (q).toNatClampNeg (((x 3) (q).toNatClampNeg) / 2)) (q).toNatClampNeg) + 1))) 3)))]) H := hP.sub [0, 1, 2, 3, 4, 5] rfl
        have hD9 : va_D A ([(qc, k_Co qg ad), (qg, k_Sc g), (ad 0, .inl (ca 0, 367, .inl ((mkx (upd (upd (x 0) (q).toNatClampNeg (((x 0) (q).toNatClampNeg) + (((w + 1) - r_8) / 2))) (q).toNatClampNeg (((upd (x 0) (q).toNatClampNeg (((x 0) (q).toNatClampNeg) + (((w + 1) - r_8) / 2))) (q).toNatClampNeg) / 2)) (upd (upd (x 1) (q).toNatClampNeg (((x 1) (q).toNatClampNeg) + 1)) (q).toNatClampNeg (((upd (x 1) (q).toNatClampNeg (((x 1) (q).toNatClampNeg) + 1)) (q).toNatClampNeg) / 2)) (x 2) (upd (upd (x 3) (q).toNatClampNeg (((x 3) (q).toNatClampNeg) / 2)) (q).toNatClampNeg (((upd (x 3) (q).toNatClampNeg (((x 3) (q).toNatClampNeg) / 2)) (q).toNatClampNeg) + 1))) 0))), (ad 1, .inl (ca 1, 367, .inl ((mkx (upd (upd (x 0) (q).toNatClampNeg (((x 0) (q).toNatClampNeg) + (((w + 1) - r_8) / 2))) (q).toNatClampNeg (((upd (x 0) (q).toNatClampNeg (((x 0) (q).toNatClampNeg) + (((w + 1) - r_8) / 2))) (q).toNatClampNeg) / 2)) (upd (upd (x 1) (q).toNatClampNeg (((x 1) (q).toNatClampNeg) + 1)) (q).toNatClampNeg (((upd (x 1) (q).toNatClampNeg (((x 1) (q).toNatClampNeg) + 1)) (q).toNatClampNeg) / 2)) (x 2) (upd (upd (x 3) (q).toNatClampNeg (((x 3) (q).toNatClampNeg) / 2)) (q).toNatClampNeg (((upd (x 3) (q).toNatClampNeg (((x 3) (q).toNatClampNeg) / 2)) (q).toNatClampNeg) + 1))) 1))), (ad 2, .inl (ca 2, 367, .inl ((mkx (upd (upd (x 0) (q).toNatClampNeg (((x 0) (q).toNatClampNeg) + (((w + 1) - r_8) / 2))) (q).toNatClampNeg (((upd (x 0) (q).toNatClampNeg (((x 0) (q).toNatClampNeg) + (((w + 1) - r_8) / 2))) (q).toNatClampNeg) / 2)) (upd (upd (x 1) (q).toNatClampNeg (((x 1) (q).toNatClampNeg) + 1)) (q).toNatClampNeg (((upd (x 1) (q).toNatClampNeg (((x 1) (q).toNatClampNeg) + 1)) (q).toNatClampNeg) / 2)) (x 2) (upd (upd (x 3) (q).toNatClampNeg (((x 3) (q).toNatClampNeg) / 2)) (q).toNatClampNeg (((upd (x 3) (q).toNatClampNeg (((x 3) (q).toNatClampNeg) / 2)) (q).toNatClampNeg) + 1))) 2))), (ad 3, .inl (ca 3, 367, .inl ((mkx (upd (upd (x 0) (q).toNatClampNeg (((x 0) (q).toNatClampNeg) + (((w + 1) - r_8) / 2))) (q).toNatClampNeg (((upd (x 0) (q).toNatClampNeg (((x 0) (q).toNatClampNeg) + (((w + 1) - r_8) / 2))) (q).toNatClampNeg) / 2)) (upd (upd (x 1) (q).toNatClampNeg (((x 1) (q).toNatClampNeg) + 1)) (q).toNatClampNeg (((upd (x 1) (q).toNatClampNeg (((x 1) (q).toNatClampNeg) + 1)) (q).toNatClampNeg) / 2)) (x 2) (upd (upd (x 3) (q).toNatClampNeg (((x 3) (q).toNatClampNeg) / 2)) (q).toNatClampNeg (((upd (x 3) (q).toNatClampNeg (((x 3) (q).toNatClampNeg) / 2)) (q).toNatClampNeg) + 1))) 3)))]) := hD.sub [0, 1, 2, 3, 4, 5] (by decide) rfl
        exact W.vret hx hb hr (fun t ht hW => ⟨⟨(mkx (upd (upd (x 0) (q).toNatClampNeg (((x 0) (q).toNatClampNeg) + (((w + 1) - r_8) / 2))) (q).toNatClampNeg (((upd (x 0) (q).toNatClampNeg (((x 0) (q).toNatClampNeg) + (((w + 1) - r_8) / 2))) (q).toNatClampNeg) / 2)) (upd (upd (x 1) (q).toNatClampNeg (((x 1) (q).toNatClampNeg) + 1)) (q).toNatClampNeg (((upd (x 1) (q).toNatClampNeg (((x 1) (q).toNatClampNeg) + 1)) (q).toNatClampNeg) / 2)) (x 2) (upd (upd (x 3) (q).toNatClampNeg (((x 3) (q).toNatClampNeg) / 2)) (q).toNatClampNeg (((upd (x 3) (q).toNatClampNeg (((x 3) (q).toNatClampNeg) / 2)) (q).toNatClampNeg) + 1))), rfl, by rw [f_learnEnd, e_1, f_learnEnd_2, if_neg c_3, if_neg c_4, e_8, f_learnEnd_9, if_pos c_10], by rw [ht]; exact hP9, va_K.moved hW.alike (hK.sub [0, 1, 2, 3] rfl), hD9⟩, hS.F ht⟩) hS.2.2 d_Co_learnEnd_97
  · have hP9 : va_P D vwCl ([(qc, k_Co qg ad), (qg, k_Sc g), (ad 0, .inl (ca 0, 367, .inl (x 0))), (ad 1, .inl (ca 1, 367, .inl (x 1))), (ad 2, .inl (ca 2, 367, .inl (x 2))), (ad 3, .inl (ca 3, 367, .inl (x 3)))]) H := hP.sub [0, 1, 2, 3, 4, 5] rfl
    have hD9 : va_D A ([(qc, k_Co qg ad), (qg, k_Sc g), (ad 0, .inl (ca 0, 367, .inl (x 0))), (ad 1, .inl (ca 1, 367, .inl (x 1))), (ad 2, .inl (ca 2, 367, .inl (x 2))), (ad 3, .inl (ca 3, 367, .inl (x 3)))]) := hD.sub [0, 1, 2, 3, 4, 5] (by decide) rfl
    exact W.vret hx hb hr (fun t ht hW => ⟨⟨x, rfl, by rw [f_learnEnd, e_1, f_learnEnd_2, if_pos c_3], by rw [ht]; exact hP9, va_K.moved hW.alike (hK.sub [0, 1, 2, 3] rfl), hD9⟩, hS.F ht⟩) hS.2.2 d_Co_learnEnd_7
def f_correct_2 (g : Nat → Int32) (x : Nat → Nat → Int32) (q : Int32) (r_1 : Int32) : Nat → Nat → Int32 :=
  if r_1 = 0 then x
  else
    if (-((x 3) (q).toNatClampNeg)) < ((x 1) (q).toNatClampNeg) then
      if ((x 1) (q).toNatClampNeg) ≤ 0 then x
      else (mkx (x 0) (upd (x 1) (q).toNatClampNeg (jmin (((x 1) (q).toNatClampNeg) - ((x 3) (q).toNatClampNeg)) 0)) (upd (x 2) (q).toNatClampNeg (jmin (((x 2) (q).toNatClampNeg) + 1) 127)) (x 3))
    else (mkx (x 0) (upd (x 1) (q).toNatClampNeg (jmax (((x 1) (q).toNatClampNeg) + ((x 3) (q).toNatClampNeg)) (1 - ((x 3) (q).toNatClampNeg)))) (upd (x 2) (q).toNatClampNeg (jmax (((x 2) (q).toNatClampNeg) - 1) (-128))) (x 3))
def f_correct (g : Nat → Int32) (x : Nat → Nat → Int32) (q : Int32) : Nat → Nat → Int32 := f_correct_2 g x q (f_has q)
set_option maxHeartbeats 4000000 in
set_option maxRecDepth 100000 in
theorem c_correct (l : Launch) (D : va_G) (sa : Nat → Nat) (sz : Nat) (qc : Nat) (qg : Nat) (ad : Nat → Nat) (ca : Nat → ClassId) (g : Nat → Int32) (x : Nat → Nat → Int32) (q : Int32)  : Met l y_Co_correct w_Co_correct ({ frames := 1, cells := 0, slots := 0, locals := 20 }) (va_Pc [.ref qc, .int q] (vq_pre D sa [(qc, k_Co qg ad), (qg, k_Sc g), (ad 0, .inl (ca 0, 367, .inl (x 0))), (ad 1, .inl (ca 1, 367, .inl (x 1))), (ad 2, .inl (ca 2, 367, .inl (x 2))), (ad 3, .inl (ca 3, 367, .inl (x 3)))] [(ca 0, .int), (ca 1, .int), (ca 2, .int), (ca 3, .int)] sz)) (va_Qv (fun (u : (Nat → Nat → Int32)) => f_correct g x q = u) (vq_B D (va_A [(qc, k_Co qg ad), (qg, k_Sc g), (ad 0, .inl (ca 0, 367, .inl (x 0))), (ad 1, .inl (ca 1, 367, .inl (x 1))), (ad 2, .inl (ca 2, 367, .inl (x 2))), (ad 3, .inl (ca 3, 367, .inl (x 3)))] sz) [(ca 0, .int), (ca 1, .int), (ca 2, .int), (ca 3, .int)] (fun (u : (Nat → Nat → Int32)) => [(qc, k_Co qg ad), (qg, k_Sc g), (ad 0, .inl (ca 0, 367, .inl (u 0))), (ad 1, .inl (ca 1, 367, .inl (u 1))), (ad 2, .inl (ca 2, 367, .inl (u 2))), (ad 3, .inl (ca 3, 367, .inl (u 3)))])) (va_A [(qc, k_Co qg ad), (qg, k_Sc g), (ad 0, .inl (ca 0, 367, .inl (x 0))), (ad 1, .inl (ca 1, 367, .inl (x 1))), (ad 2, .inl (ca 2, 367, .inl (x 2))), (ad 3, .inl (ca 3, 367, .inl (x 3)))] sz)) 0 0 (va_A [(qc, k_Co qg ad), (qg, k_Sc g), (ad 0, .inl (ca 0, 367, .inl (x 0))), (ad 1, .inl (ca 1, 367, .inl (x 1))), (ad 2, .inl (ca 2, 367, .inl (x 2))), (ad 3, .inl (ca 3, 367, .inl (x 3)))] sz) := by
  refine Met.ofW (cc := b_Co_correct) (maxL := 3) (ret := none) (by decide) rfl ?_
  intro p e s m args below meth c s₁ B hml hv
  obtain ⟨rfl, hsz, hP, hK, hD0, hE⟩ := hv
  have hx := B.exec
  have hb := B.bytes
  have hr := B.returns
  have hts := atoms_spec (ws := w_Co_correct) B.pre
  have hu : ∀ w9 ∈ vU, Cond.before w9 ([.ref qc, .int q]).toArray s = true := fun w9 h => hts w9 (List.mem_cons_of_mem _ h)
  have hown : s.vm.findClass R_Co = some m.cls := findClass_of_methodNamed B.named
  have hlocks := B.notSynchronized
  subst hsz
  have hD := hD0.self (sz := s.heap.size)
  generalize hAe : va_A [(qc, k_Co qg ad), (qg, k_Sc g), (ad 0, .inl (ca 0, 367, .inl (x 0))), (ad 1, .inl (ca 1, 367, .inl (x 1))), (ad 2, .inl (ca 2, 367, .inl (x 2))), (ad 3, .inl (ca 3, 367, .inl (x 3)))] s.heap.size = A at hD ⊢
  have hA : ∀ q : Nat, s.heap.size ≤ q → A q := fun q h => by rw [← hAe]; exact Or.inr h
  have hS : va_S A s.heap s.heap [] := va_S.rf
  have hP : va_P D vwCl [(qc, k_Co qg ad), (qg, k_Sc g), (ad 0, .inl (ca 0, 367, .inl (x 0))), (ad 1, .inl (ca 1, 367, .inl (x 1))), (ad 2, .inl (ca 2, 367, .inl (x 2))), (ad 3, .inl (ca 3, 367, .inl (x 3)))] s.heap := hP
  have hl := lv_entry ([.ref qc, .int q]) (n := 3) (Nat.le_of_ble_eq_true rfl)
  rw [lg_entry_eq]
  generalize (lg_sl ([.ref qc, .int q]) ++ List.replicate (3 - (lg_sl ([.ref qc, .int q])).length) Slot.unset).toArray = ls at hl ⊢
  have hl : lv_has ls 3 [(0, .ref qc), (1, .int q)] := hl
  refine lv_iload_n hx hb d_Co_correct_0 rfl (lv_at hl 1 rfl) ?_
  refine vq_i (wr := [(qc, k_Co qg ad), (qg, k_Sc g), (ad 0, .inl (ca 0, 367, .inl (x 0))), (ad 1, .inl (ca 1, 367, .inl (x 1))), (ad 2, .inl (ca 2, 367, .inl (x 2))), (ad 3, .inl (ca 3, 367, .inl (x 3)))]) (va_runS (As := [.int q]) (rest := []) ⟨hx, hb, hml, hown, hts⟩ (c_has l D sa s.heap.size q) (va_cwS 1 hts (vg_S (fun w h => List.mem_cons_of_mem _ h) hw_356 hw_357 hw_36 hw_358) rfl rfl rfl (by decide +kernel) ⟨Nat.le_of_ble_eq_true rfl, Nat.le_of_ble_eq_true rfl⟩) (vq_pS hE hK hP hD [] [] rfl (by decide) rfl) rfl rfl hl.1 rfl (lv_room (Nat.le_of_ble_eq_true rfl)) d_Co_correct_1 ⟨Nat.le_of_ble_eq_true rfl, Nat.le_of_ble_eq_true rfl⟩) hP hD hS hA [] [0, 1, 2, 3, 4, 5] rfl rfl (by decide) (by decide) (fun r_1 u_1 H locs e_1 hP hD hS => ?_)
  have hP : va_P D vwCl [(qc, k_Co qg ad), (qg, k_Sc g), (ad 0, .inl (ca 0, 367, .inl (x 0))), (ad 1, .inl (ca 1, 367, .inl (x 1))), (ad 2, .inl (ca 2, 367, .inl (x 2))), (ad 3, .inl (ca 3, 367, .inl (x 3)))] H := hP
  have hD : va_D A [(qc, k_Co qg ad), (qg, k_Sc g), (ad 0, .inl (ca 0, 367, .inl (x 0))), (ad 1, .inl (ca 1, 367, .inl (x 1))), (ad 2, .inl (ca 2, 367, .inl (x 2))), (ad 3, .inl (ca 3, 367, .inl (x 3)))] := hD
  refine lv_if_ne (tgt := 8) hx hb d_Co_correct_4 (by decide) (fun c_3 => ?_) (fun c_3 => ?_)
  · refine lv_aload_n hx hb d_Co_correct_8 rfl (lv_at hl 0 rfl) ?_
    refine va_get (D := D) (ci := 4) (v := .ref (ad 3)) (C := R_Co) (T := T_Co) (N := 5) hx hb hu in_Co hown hK hP 0 rfl rfl 4 (by decide) (hu _ hw_128) (fun _ h9 => h9) rfl d_Co_correct_9 ?_
    refine lv_iload_n hx hb d_Co_correct_12 rfl (lv_at hl 1 rfl) ?_
    refine va_iald hx hb hK hP 5 3 rfl rfl (vq_hasr (by assumption) (by assumption)) d_Co_correct_13 ?_
    refine lv_istore_n (lv' := [(2, .int ((x 3) (q).toNatClampNeg)), (0, .ref qc), (1, .int q)]) hx hb d_Co_correct_14 rfl hl (by decide) rfl (fun ls hl => ?_)
    refine lv_aload_n hx hb d_Co_correct_15 rfl (lv_at hl 1 rfl) ?_
    refine va_get (D := D) (ci := 4) (v := .ref (ad 1)) (C := R_Co) (T := T_Co) (N := 5) hx hb hu in_Co hown hK hP 0 rfl rfl 2 (by decide) (hu _ hw_126) (fun _ h9 => h9) rfl d_Co_correct_16 ?_
    refine lv_iload_n hx hb d_Co_correct_19 rfl (lv_at hl 2 rfl) ?_
    refine va_iald hx hb hK hP 3 1 rfl rfl (vq_hasr (by assumption) (by assumption)) d_Co_correct_20 ?_
    refine lv_iload_n hx hb d_Co_correct_21 rfl (lv_at hl 0 rfl) ?_
    refine lv_ineg hx hb d_Co_correct_22 ?_
    refine lv_icmp_gt (tgt := 68) hx hb d_Co_correct_23 (by decide) (fun c_4 => ?_) (fun c_4 => ?_)
    · refine lv_aload_n hx hb d_Co_correct_68 rfl (lv_at hl 1 rfl) ?_
      refine va_get (D := D) (ci := 4) (v := .ref (ad 1)) (C := R_Co) (T := T_Co) (N := 5) hx hb hu in_Co hown hK hP 0 rfl rfl 2 (by decide) (hu _ hw_126) (fun _ h9 => h9) rfl d_Co_correct_69 ?_
      refine lv_iload_n hx hb d_Co_correct_72 rfl (lv_at hl 2 rfl) ?_
      refine va_iald hx hb hK hP 3 1 rfl rfl (vq_hasr (by assumption) (by assumption)) d_Co_correct_73 ?_
      refine lv_if_le (tgt := 114) hx hb d_Co_correct_74 (by decide) (fun c_5 => ?_) (fun c_5 => ?_)
      · have hP9 : va_P D vwCl ([(qc, k_Co qg ad), (qg, k_Sc g), (ad 0, .inl (ca 0, 367, .inl (x 0))), (ad 1, .inl (ca 1, 367, .inl (x 1))), (ad 2, .inl (ca 2, 367, .inl (x 2))), (ad 3, .inl (ca 3, 367, .inl (x 3)))]) H := hP.sub [0, 1, 2, 3, 4, 5] rfl
        have hD9 : va_D A ([(qc, k_Co qg ad), (qg, k_Sc g), (ad 0, .inl (ca 0, 367, .inl (x 0))), (ad 1, .inl (ca 1, 367, .inl (x 1))), (ad 2, .inl (ca 2, 367, .inl (x 2))), (ad 3, .inl (ca 3, 367, .inl (x 3)))]) := hD.sub [0, 1, 2, 3, 4, 5] (by decide) rfl
        exact W.vret hx hb hr (fun t ht hW => ⟨⟨x, rfl, by rw [f_correct, e_1, f_correct_2, if_neg c_3, if_pos c_4, if_pos c_5], by rw [ht]; exact hP9, va_K.moved hW.alike (hK.sub [0, 1, 2, 3] rfl), hD9⟩, hS.F ht⟩) hS.2.2 d_Co_correct_114
      · refine lv_aload_n hx hb d_Co_correct_77 rfl (lv_at hl 1 rfl) ?_
        refine va_get (D := D) (ci := 4) (v := .ref (ad 1)) (C := R_Co) (T := T_Co) (N := 5) hx hb hu in_Co hown hK hP 0 rfl rfl 2 (by decide) (hu _ hw_126) (fun _ h9 => h9) rfl d_Co_correct_78 ?_
        refine lv_iload_n hx hb d_Co_correct_81 rfl (lv_at hl 2 rfl) ?_
        refine lv_aload_n hx hb d_Co_correct_82 rfl (lv_at hl 1 rfl) ?_
        refine va_get (D := D) (ci := 4) (v := .ref (ad 1)) (C := R_Co) (T := T_Co) (N := 5) hx hb hu in_Co hown hK hP 0 rfl rfl 2 (by decide) (hu _ hw_126) (fun _ h9 => h9) rfl d_Co_correct_83 ?_
        refine lv_iload_n hx hb d_Co_correct_86 rfl (lv_at hl 2 rfl) ?_
        refine va_iald hx hb hK hP 3 1 rfl rfl (vq_hasr (by assumption) (by assumption)) d_Co_correct_87 ?_
        refine lv_iload_n hx hb d_Co_correct_88 rfl (lv_at hl 0 rfl) ?_
        refine lv_isub hx hb d_Co_correct_89 ?_
        refine lv_iconst (v := 0) hx hb d_Co_correct_90 (by decide) ?_
        refine va_mmin hx hb (hml.trans hl.1.symm) hown (hu _ hw_418) (hu _ hw_59) (hu _ hw_33) (hu _ hw_60) (Nat.le_of_ble_eq_true rfl) (Nat.le_of_ble_eq_true rfl) (Nat.le_of_ble_eq_true rfl) (Nat.le_of_ble_eq_true rfl) d_Co_correct_91 ?_
        refine W.eq (g2 := F0 m 94 ls [.int (jmin (((x 1) (q).toNatClampNeg) - ((x 3) (q).toNatClampNeg)) 0), .int q, .ref (ad 1)]) rfl ?_
        refine va_iast hx hb hK hP hD hS 3 1 rfl rfl (vq_hasr (by assumption) (by assumption)) d_Co_correct_94 (fun H locs hP hD hS => ?_)
        have hP : va_P D vwCl [(qc, k_Co qg ad), (qg, k_Sc g), (ad 0, .inl (ca 0, 367, .inl (x 0))), (ad 1, .inl (ca 1, 367, .inl (upd (x 1) (q).toNatClampNeg (jmin (((x 1) (q).toNatClampNeg) - ((x 3) (q).toNatClampNeg)) 0)))), (ad 2, .inl (ca 2, 367, .inl (x 2))), (ad 3, .inl (ca 3, 367, .inl (x 3)))] H := hP
        have hD : va_D A [(qc, k_Co qg ad), (qg, k_Sc g), (ad 0, .inl (ca 0, 367, .inl (x 0))), (ad 1, .inl (ca 1, 367, .inl (upd (x 1) (q).toNatClampNeg (jmin (((x 1) (q).toNatClampNeg) - ((x 3) (q).toNatClampNeg)) 0)))), (ad 2, .inl (ca 2, 367, .inl (x 2))), (ad 3, .inl (ca 3, 367, .inl (x 3)))] := hD
        refine lv_aload_n hx hb d_Co_correct_95 rfl (lv_at hl 1 rfl) ?_
        refine va_get (D := D) (ci := 4) (v := .ref (ad 2)) (C := R_Co) (T := T_Co) (N := 5) hx hb hu in_Co hown hK hP 0 rfl rfl 3 (by decide) (hu _ hw_127) (fun _ h9 => h9) rfl d_Co_correct_96 ?_
        refine lv_iload_n hx hb d_Co_correct_99 rfl (lv_at hl 2 rfl) ?_
        refine lv_aload_n hx hb d_Co_correct_100 rfl (lv_at hl 1 rfl) ?_
        refine va_get (D := D) (ci := 4) (v := .ref (ad 2)) (C := R_Co) (T := T_Co) (N := 5) hx hb hu in_Co hown hK hP 0 rfl rfl 3 (by decide) (hu _ hw_127) (fun _ h9 => h9) rfl d_Co_correct_101 ?_
        refine lv_iload_n hx hb d_Co_correct_104 rfl (lv_at hl 2 rfl) ?_
        refine va_iald hx hb hK hP 4 2 rfl rfl (vq_hasr (by assumption) (by assumption)) d_Co_correct_105 ?_
        refine lv_iconst (v := 1) hx hb d_Co_correct_106 (by decide) ?_
        refine lv_iadd hx hb d_Co_correct_107 ?_
        refine lv_bipush (v := 127) hx hb d_Co_correct_108 (by decide) ?_
        refine va_mmin hx hb (hml.trans hl.1.symm) hown (hu _ hw_418) (hu _ hw_59) (hu _ hw_33) (hu _ hw_60) (Nat.le_of_ble_eq_true rfl) (Nat.le_of_ble_eq_true rfl) (Nat.le_of_ble_eq_true rfl) (Nat.le_of_ble_eq_true rfl) d_Co_correct_110 ?_
        refine W.eq (g2 := F0 m 113 ls [.int (jmin (((x 2) (q).toNatClampNeg) + 1) 127), .int q, .ref (ad 2)]) rfl ?_
        refine va_iast hx hb hK hP hD hS 4 2 rfl rfl (vq_hasr (by assumption) (by assumption)) d_Co_correct_113 (fun H locs hP hD hS => ?_)
        have hP : va_P D vwCl [(qc, k_Co qg ad), (qg, k_Sc g), (ad 0, .inl (ca 0, 367, .inl (x 0))), (ad 1, .inl (ca 1, 367, .inl (upd (x 1) (q).toNatClampNeg (jmin (((x 1) (q).toNatClampNeg) - ((x 3) (q).toNatClampNeg)) 0)))), (ad 2, .inl (ca 2, 367, .inl (upd (x 2) (q).toNatClampNeg (jmin (((x 2) (q).toNatClampNeg) + 1) 127)))), (ad 3, .inl (ca 3, 367, .inl (x 3)))] H := hP
        have hD : va_D A [(qc, k_Co qg ad), (qg, k_Sc g), (ad 0, .inl (ca 0, 367, .inl (x 0))), (ad 1, .inl (ca 1, 367, .inl (upd (x 1) (q).toNatClampNeg (jmin (((x 1) (q).toNatClampNeg) - ((x 3) (q).toNatClampNeg)) 0)))), (ad 2, .inl (ca 2, 367, .inl (upd (x 2) (q).toNatClampNeg (jmin (((x 2) (q).toNatClampNeg) + 1) 127)))), (ad 3, .inl (ca 3, 367, .inl (x 3)))] := hD
        have hP9 : va_P D vwCl ([(qc, k_Co qg ad), (qg, k_Sc g), (ad 0, .inl (ca 0, 367, .inl ((mkx (x 0) (upd (x 1) (q).toNatClampNeg (jmin (((x 1) (q).toNatClampNeg) - ((x 3) (q).toNatClampNeg)) 0)) (upd (x 2) (q).toNatClampNeg (jmin (((x 2) (q).toNatClampNeg) + 1) 127)) (x 3)) 0))), (ad 1, .inl (ca 1, 367, .inl ((mkx (x 0) (upd (x 1) (q).toNatClampNeg (jmin (((x 1) (q).toNatClampNeg) - ((x 3) (q).toNatClampNeg)) 0)) (upd (x 2) (q).toNatClampNeg (jmin (((x 2) (q).toNatClampNeg) + 1) 127)) (x 3)) 1))), (ad 2, .inl (ca 2, 367, .inl ((mkx (x 0) (upd (x 1) (q).toNatClampNeg (jmin (((x 1) (q).toNatClampNeg) - ((x 3) (q).toNatClampNeg)) 0)) (upd (x 2) (q).toNatClampNeg (jmin (((x 2) (q).toNatClampNeg) + 1) 127)) (x 3)) 2))), (ad 3, .inl (ca 3, 367, .inl ((mkx (x 0) (upd (x 1) (q).toNatClampNeg (jmin (((x 1) (q).toNatClampNeg) - ((x 3) (q).toNatClampNeg)) 0)) (upd (x 2) (q).toNatClampNeg (jmin (((x 2) (q).toNatClampNeg) + 1) 127)) (x 3)) 3)))]) H := hP.sub [0, 1, 2, 3, 4, 5] rfl
        have hD9 : va_D A ([(qc, k_Co qg ad), (qg, k_Sc g), (ad 0, .inl (ca 0, 367, .inl ((mkx (x 0) (upd (x 1) (q).toNatClampNeg (jmin (((x 1) (q).toNatClampNeg) - ((x 3) (q).toNatClampNeg)) 0)) (upd (x 2) (q).toNatClampNeg (jmin (((x 2) (q).toNatClampNeg) + 1) 127)) (x 3)) 0))), (ad 1, .inl (ca 1, 367, .inl ((mkx (x 0) (upd (x 1) (q).toNatClampNeg (jmin (((x 1) (q).toNatClampNeg) - ((x 3) (q).toNatClampNeg)) 0)) (upd (x 2) (q).toNatClampNeg (jmin (((x 2) (q).toNatClampNeg) + 1) 127)) (x 3)) 1))), (ad 2, .inl (ca 2, 367, .inl ((mkx (x 0) (upd (x 1) (q).toNatClampNeg (jmin (((x 1) (q).toNatClampNeg) - ((x 3) (q).toNatClampNeg)) 0)) (upd (x 2) (q).toNatClampNeg (jmin (((x 2) (q).toNatClampNeg) + 1) 127)) (x 3)) 2))), (ad 3, .inl (ca 3, 367, .inl ((mkx (x 0) (upd (x 1) (q).toNatClampNeg (jmin (((x 1) (q).toNatClampNeg) - ((x 3) (q).toNatClampNeg)) 0)) (upd (x 2) (q).toNatClampNeg (jmin (((x 2) (q).toNatClampNeg) + 1) 127)) (x 3)) 3)))]) := hD.sub [0, 1, 2, 3, 4, 5] (by decide) rfl
        exact W.vret hx hb hr (fun t ht hW => ⟨⟨(mkx (x 0) (upd (x 1) (q).toNatClampNeg (jmin (((x 1) (q).toNatClampNeg) - ((x 3) (q).toNatClampNeg)) 0)) (upd (x 2) (q).toNatClampNeg (jmin (((x 2) (q).toNatClampNeg) + 1) 127)) (x 3)), rfl, by rw [f_correct, e_1, f_correct_2, if_neg c_3, if_pos c_4, if_neg c_5], by rw [ht]; exact hP9, va_K.moved hW.alike (hK.sub [0, 1, 2, 3] rfl), hD9⟩, hS.F ht⟩) hS.2.2 d_Co_correct_114
    · refine lv_aload_n hx hb d_Co_correct_26 rfl (lv_at hl 1 rfl) ?_
      refine va_get (D := D) (ci := 4) (v := .ref (ad 1)) (C := R_Co) (T := T_Co) (N := 5) hx hb hu in_Co hown hK hP 0 rfl rfl 2 (by decide) (hu _ hw_126) (fun _ h9 => h9) rfl d_Co_correct_27 ?_
      refine lv_iload_n hx hb d_Co_correct_30 rfl (lv_at hl 2 rfl) ?_
      refine lv_aload_n hx hb d_Co_correct_31 rfl (lv_at hl 1 rfl) ?_
      refine va_get (D := D) (ci := 4) (v := .ref (ad 1)) (C := R_Co) (T := T_Co) (N := 5) hx hb hu in_Co hown hK hP 0 rfl rfl 2 (by decide) (hu _ hw_126) (fun _ h9 => h9) rfl d_Co_correct_32 ?_
      refine lv_iload_n hx hb d_Co_correct_35 rfl (lv_at hl 2 rfl) ?_
      refine va_iald hx hb hK hP 3 1 rfl rfl (vq_hasr (by assumption) (by assumption)) d_Co_correct_36 ?_
      refine lv_iload_n hx hb d_Co_correct_37 rfl (lv_at hl 0 rfl) ?_
      refine lv_iadd hx hb d_Co_correct_38 ?_
      refine lv_iconst (v := 1) hx hb d_Co_correct_39 (by decide) ?_
      refine lv_iload_n hx hb d_Co_correct_40 rfl (lv_at hl 0 rfl) ?_
      refine lv_isub hx hb d_Co_correct_41 ?_
      refine va_mmax hx hb (hml.trans hl.1.symm) hown (hu _ hw_120) (hu _ hw_62) (hu _ hw_33) (hu _ hw_63) (Nat.le_of_ble_eq_true rfl) (Nat.le_of_ble_eq_true rfl) (Nat.le_of_ble_eq_true rfl) (Nat.le_of_ble_eq_true rfl) d_Co_correct_42 ?_
      refine W.eq (g2 := F0 m 45 ls [.int (jmax (((x 1) (q).toNatClampNeg) + ((x 3) (q).toNatClampNeg)) (1 - ((x 3) (q).toNatClampNeg))), .int q, .ref (ad 1)]) rfl ?_
      refine va_iast hx hb hK hP hD hS 3 1 rfl rfl (vq_hasr (by assumption) (by assumption)) d_Co_correct_45 (fun H locs hP hD hS => ?_)
      have hP : va_P D vwCl [(qc, k_Co qg ad), (qg, k_Sc g), (ad 0, .inl (ca 0, 367, .inl (x 0))), (ad 1, .inl (ca 1, 367, .inl (upd (x 1) (q).toNatClampNeg (jmax (((x 1) (q).toNatClampNeg) + ((x 3) (q).toNatClampNeg)) (1 - ((x 3) (q).toNatClampNeg)))))), (ad 2, .inl (ca 2, 367, .inl (x 2))), (ad 3, .inl (ca 3, 367, .inl (x 3)))] H := hP
      have hD : va_D A [(qc, k_Co qg ad), (qg, k_Sc g), (ad 0, .inl (ca 0, 367, .inl (x 0))), (ad 1, .inl (ca 1, 367, .inl (upd (x 1) (q).toNatClampNeg (jmax (((x 1) (q).toNatClampNeg) + ((x 3) (q).toNatClampNeg)) (1 - ((x 3) (q).toNatClampNeg)))))), (ad 2, .inl (ca 2, 367, .inl (x 2))), (ad 3, .inl (ca 3, 367, .inl (x 3)))] := hD
      refine lv_aload_n hx hb d_Co_correct_46 rfl (lv_at hl 1 rfl) ?_
      refine va_get (D := D) (ci := 4) (v := .ref (ad 2)) (C := R_Co) (T := T_Co) (N := 5) hx hb hu in_Co hown hK hP 0 rfl rfl 3 (by decide) (hu _ hw_127) (fun _ h9 => h9) rfl d_Co_correct_47 ?_
      refine lv_iload_n hx hb d_Co_correct_50 rfl (lv_at hl 2 rfl) ?_
      refine lv_aload_n hx hb d_Co_correct_51 rfl (lv_at hl 1 rfl) ?_
      refine va_get (D := D) (ci := 4) (v := .ref (ad 2)) (C := R_Co) (T := T_Co) (N := 5) hx hb hu in_Co hown hK hP 0 rfl rfl 3 (by decide) (hu _ hw_127) (fun _ h9 => h9) rfl d_Co_correct_52 ?_
      refine lv_iload_n hx hb d_Co_correct_55 rfl (lv_at hl 2 rfl) ?_
      refine va_iald hx hb hK hP 4 2 rfl rfl (vq_hasr (by assumption) (by assumption)) d_Co_correct_56 ?_
      refine lv_iconst (v := 1) hx hb d_Co_correct_57 (by decide) ?_
      refine lv_isub hx hb d_Co_correct_58 ?_
      refine lv_bipush (v := -128) hx hb d_Co_correct_59 (by decide) ?_
      refine va_mmax hx hb (hml.trans hl.1.symm) hown (hu _ hw_120) (hu _ hw_62) (hu _ hw_33) (hu _ hw_63) (Nat.le_of_ble_eq_true rfl) (Nat.le_of_ble_eq_true rfl) (Nat.le_of_ble_eq_true rfl) (Nat.le_of_ble_eq_true rfl) d_Co_correct_61 ?_
      refine W.eq (g2 := F0 m 64 ls [.int (jmax (((x 2) (q).toNatClampNeg) - 1) (-128)), .int q, .ref (ad 2)]) rfl ?_
      refine va_iast hx hb hK hP hD hS 4 2 rfl rfl (vq_hasr (by assumption) (by assumption)) d_Co_correct_64 (fun H locs hP hD hS => ?_)
      have hP : va_P D vwCl [(qc, k_Co qg ad), (qg, k_Sc g), (ad 0, .inl (ca 0, 367, .inl (x 0))), (ad 1, .inl (ca 1, 367, .inl (upd (x 1) (q).toNatClampNeg (jmax (((x 1) (q).toNatClampNeg) + ((x 3) (q).toNatClampNeg)) (1 - ((x 3) (q).toNatClampNeg)))))), (ad 2, .inl (ca 2, 367, .inl (upd (x 2) (q).toNatClampNeg (jmax (((x 2) (q).toNatClampNeg) - 1) (-128))))), (ad 3, .inl (ca 3, 367, .inl (x 3)))] H := hP
      have hD : va_D A [(qc, k_Co qg ad), (qg, k_Sc g), (ad 0, .inl (ca 0, 367, .inl (x 0))), (ad 1, .inl (ca 1, 367, .inl (upd (x 1) (q).toNatClampNeg (jmax (((x 1) (q).toNatClampNeg) + ((x 3) (q).toNatClampNeg)) (1 - ((x 3) (q).toNatClampNeg)))))), (ad 2, .inl (ca 2, 367, .inl (upd (x 2) (q).toNatClampNeg (jmax (((x 2) (q).toNatClampNeg) - 1) (-128))))), (ad 3, .inl (ca 3, 367, .inl (x 3)))] := hD
      refine lv_goto (tgt := 114) hx hb d_Co_correct_65 (by decide) ?_
      have hP9 : va_P D vwCl ([(qc, k_Co qg ad), (qg, k_Sc g), (ad 0, .inl (ca 0, 367, .inl ((mkx (x 0) (upd (x 1) (q).toNatClampNeg (jmax (((x 1) (q).toNatClampNeg) + ((x 3) (q).toNatClampNeg)) (1 - ((x 3) (q).toNatClampNeg)))) (upd (x 2) (q).toNatClampNeg (jmax (((x 2) (q).toNatClampNeg) - 1) (-128))) (x 3)) 0))), (ad 1, .inl (ca 1, 367, .inl ((mkx (x 0) (upd (x 1) (q).toNatClampNeg (jmax (((x 1) (q).toNatClampNeg) + ((x 3) (q).toNatClampNeg)) (1 - ((x 3) (q).toNatClampNeg)))) (upd (x 2) (q).toNatClampNeg (jmax (((x 2) (q).toNatClampNeg) - 1) (-128))) (x 3)) 1))), (ad 2, .inl (ca 2, 367, .inl ((mkx (x 0) (upd (x 1) (q).toNatClampNeg (jmax (((x 1) (q).toNatClampNeg) + ((x 3) (q).toNatClampNeg)) (1 - ((x 3) (q).toNatClampNeg)))) (upd (x 2) (q).toNatClampNeg (jmax (((x 2) (q).toNatClampNeg) - 1) (-128))) (x 3)) 2))), (ad 3, .inl (ca 3, 367, .inl ((mkx (x 0) (upd (x 1) (q).toNatClampNeg (jmax (((x 1) (q).toNatClampNeg) + ((x 3) (q).toNatClampNeg)) (1 - ((x 3) (q).toNatClampNeg)))) (upd (x 2) (q).toNatClampNeg (jmax (((x 2) (q).toNatClampNeg) - 1) (-128))) (x 3)) 3)))]) H := hP.sub [0, 1, 2, 3, 4, 5] rfl
      have hD9 : va_D A ([(qc, k_Co qg ad), (qg, k_Sc g), (ad 0, .inl (ca 0, 367, .inl ((mkx (x 0) (upd (x 1) (q).toNatClampNeg (jmax (((x 1) (q).toNatClampNeg) + ((x 3) (q).toNatClampNeg)) (1 - ((x 3) (q).toNatClampNeg)))) (upd (x 2) (q).toNatClampNeg (jmax (((x 2) (q).toNatClampNeg) - 1) (-128))) (x 3)) 0))), (ad 1, .inl (ca 1, 367, .inl ((mkx (x 0) (upd (x 1) (q).toNatClampNeg (jmax (((x 1) (q).toNatClampNeg) + ((x 3) (q).toNatClampNeg)) (1 - ((x 3) (q).toNatClampNeg)))) (upd (x 2) (q).toNatClampNeg (jmax (((x 2) (q).toNatClampNeg) - 1) (-128))) (x 3)) 1))), (ad 2, .inl (ca 2, 367, .inl ((mkx (x 0) (upd (x 1) (q).toNatClampNeg (jmax (((x 1) (q).toNatClampNeg) + ((x 3) (q).toNatClampNeg)) (1 - ((x 3) (q).toNatClampNeg)))) (upd (x 2) (q).toNatClampNeg (jmax (((x 2) (q).toNatClampNeg) - 1) (-128))) (x 3)) 2))), (ad 3, .inl (ca 3, 367, .inl ((mkx (x 0) (upd (x 1) (q).toNatClampNeg (jmax (((x 1) (q).toNatClampNeg) + ((x 3) (q).toNatClampNeg)) (1 - ((x 3) (q).toNatClampNeg)))) (upd (x 2) (q).toNatClampNeg (jmax (((x 2) (q).toNatClampNeg) - 1) (-128))) (x 3)) 3)))]) := hD.sub [0, 1, 2, 3, 4, 5] (by decide) rfl
      exact W.vret hx hb hr (fun t ht hW => ⟨⟨(mkx (x 0) (upd (x 1) (q).toNatClampNeg (jmax (((x 1) (q).toNatClampNeg) + ((x 3) (q).toNatClampNeg)) (1 - ((x 3) (q).toNatClampNeg)))) (upd (x 2) (q).toNatClampNeg (jmax (((x 2) (q).toNatClampNeg) - 1) (-128))) (x 3)), rfl, by rw [f_correct, e_1, f_correct_2, if_neg c_3, if_neg c_4], by rw [ht]; exact hP9, va_K.moved hW.alike (hK.sub [0, 1, 2, 3] rfl), hD9⟩, hS.F ht⟩) hS.2.2 d_Co_correct_114
  · have hP9 : va_P D vwCl ([(qc, k_Co qg ad), (qg, k_Sc g), (ad 0, .inl (ca 0, 367, .inl (x 0))), (ad 1, .inl (ca 1, 367, .inl (x 1))), (ad 2, .inl (ca 2, 367, .inl (x 2))), (ad 3, .inl (ca 3, 367, .inl (x 3)))]) H := hP.sub [0, 1, 2, 3, 4, 5] rfl
    have hD9 : va_D A ([(qc, k_Co qg ad), (qg, k_Sc g), (ad 0, .inl (ca 0, 367, .inl (x 0))), (ad 1, .inl (ca 1, 367, .inl (x 1))), (ad 2, .inl (ca 2, 367, .inl (x 2))), (ad 3, .inl (ca 3, 367, .inl (x 3)))]) := hD.sub [0, 1, 2, 3, 4, 5] (by decide) rfl
    exact W.vret hx hb hr (fun t ht hW => ⟨⟨x, rfl, by rw [f_correct, e_1, f_correct_2, if_pos c_3], by rw [ht]; exact hP9, va_K.moved hW.alike (hK.sub [0, 1, 2, 3] rfl), hD9⟩, hS.F ht⟩) hS.2.2 d_Co_correct_7
def f_learn_9 (g : Nat → Int32) (x : Nat → Nat → Int32) (q : Int32) (v : Int32) (w : Int32) (r_1 : Int32) (r_4 : Int32) (x_8 : Nat → Nat → Int32) : Nat → Nat → Int32 := (mkx (x_8 0) (x_8 1) (x_8 2) (x_8 3))
def f_learn_12 (g : Nat → Int32) (x : Nat → Nat → Int32) (q : Int32) (v : Int32) (w : Int32) (r_1 : Int32) (r_4 : Int32) (x_11 : Nat → Nat → Int32) : Nat → Nat → Int32 := (mkx (x_11 0) (x_11 1) (x_11 2) (x_11 3))
def f_learn_14 (g : Nat → Int32) (x : Nat → Nat → Int32) (q : Int32) (v : Int32) (w : Int32) (r_1 : Int32) (r_4 : Int32) (x_13 : Nat → Nat → Int32) : Nat → Nat → Int32 := (mkx (x_13 0) (x_13 1) (x_13 2) (x_13 3))
def f_learn_16 (g : Nat → Int32) (x : Nat → Nat → Int32) (q : Int32) (v : Int32) (w : Int32) (r_1 : Int32) (r_4 : Int32) (x_15 : Nat → Nat → Int32) : Nat → Nat → Int32 := (mkx (x_15 0) (x_15 1) (x_15 2) (x_15 3))
def f_learn_5 (g : Nat → Int32) (x : Nat → Nat → Int32) (q : Int32) (v : Int32) (w : Int32) (r_1 : Int32) (r_4 : Int32) : Nat → Nat → Int32 :=
  if r_4 = 0 then
    if ((x 3) (q).toNatClampNeg) = (g 7) then
      if 0 ≤ ((upd (x 1) (q).toNatClampNeg (((x 1) (q).toNatClampNeg) + (v * (g 2)))) (q).toNatClampNeg) then f_learn_12 g x q v w r_1 r_4 (f_correct g (mkx (upd (upd (x 0) (q).toNatClampNeg (((x 0) (q).toNatClampNeg) + (jabs v))) (q).toNatClampNeg (((upd (x 0) (q).toNatClampNeg (((x 0) (q).toNatClampNeg) + (jabs v))) (q).toNatClampNeg) / 2)) (upd (upd (x 1) (q).toNatClampNeg (((x 1) (q).toNatClampNeg) + (v * (g 2)))) (q).toNatClampNeg (((upd (x 1) (q).toNatClampNeg (((x 1) (q).toNatClampNeg) + (v * (g 2)))) (q).toNatClampNeg) / 2)) (x 2) (upd (upd (x 3) (q).toNatClampNeg (((x 3) (q).toNatClampNeg) / 2)) (q).toNatClampNeg (((upd (x 3) (q).toNatClampNeg (((x 3) (q).toNatClampNeg) / 2)) (q).toNatClampNeg) + 1))) q)
      else f_learn_14 g x q v w r_1 r_4 (f_correct g (mkx (upd (upd (x 0) (q).toNatClampNeg (((x 0) (q).toNatClampNeg) + (jabs v))) (q).toNatClampNeg (((upd (x 0) (q).toNatClampNeg (((x 0) (q).toNatClampNeg) + (jabs v))) (q).toNatClampNeg) / 2)) (upd (upd (x 1) (q).toNatClampNeg (((x 1) (q).toNatClampNeg) + (v * (g 2)))) (q).toNatClampNeg (-((1 - ((upd (x 1) (q).toNatClampNeg (((x 1) (q).toNatClampNeg) + (v * (g 2)))) (q).toNatClampNeg)) / 2))) (x 2) (upd (upd (x 3) (q).toNatClampNeg (((x 3) (q).toNatClampNeg) / 2)) (q).toNatClampNeg (((upd (x 3) (q).toNatClampNeg (((x 3) (q).toNatClampNeg) / 2)) (q).toNatClampNeg) + 1))) q)
    else f_learn_9 g x q v w r_1 r_4 (f_correct g (mkx (upd (x 0) (q).toNatClampNeg (((x 0) (q).toNatClampNeg) + (jabs v))) (upd (x 1) (q).toNatClampNeg (((x 1) (q).toNatClampNeg) + (v * (g 2)))) (x 2) (upd (x 3) (q).toNatClampNeg (((x 3) (q).toNatClampNeg) + 1))) q)
  else f_learn_16 g x q v w r_1 r_4 (f_learnEnd g x q v w)
def f_learn_2 (g : Nat → Int32) (x : Nat → Nat → Int32) (q : Int32) (v : Int32) (w : Int32) (r_1 : Int32) : Nat → Nat → Int32 :=
  if r_1 = 0 then x
  else f_learn_5 g x q v w r_1 (f_endsRun q)
def f_learn (g : Nat → Int32) (x : Nat → Nat → Int32) (q : Int32) (v : Int32) (w : Int32) : Nat → Nat → Int32 := f_learn_2 g x q v w (f_has q)
set_option maxHeartbeats 4000000 in
set_option maxRecDepth 100000 in
theorem c_learn (l : Launch) (D : va_G) (sa : Nat → Nat) (sz : Nat) (qc : Nat) (qg : Nat) (ad : Nat → Nat) (ca : Nat → ClassId) (g : Nat → Int32) (x : Nat → Nat → Int32) (q : Int32) (v : Int32) (w : Int32)  : Met l y_Co_learn w_Co_learn ({ frames := 2, cells := 0, slots := 0, locals := 43 }) (va_Pc [.ref qc, .int q, .int v, .int w] (vq_pre D sa [(qc, k_Co qg ad), (qg, k_Sc g), (ad 0, .inl (ca 0, 367, .inl (x 0))), (ad 1, .inl (ca 1, 367, .inl (x 1))), (ad 2, .inl (ca 2, 367, .inl (x 2))), (ad 3, .inl (ca 3, 367, .inl (x 3)))] [(ca 0, .int), (ca 1, .int), (ca 2, .int), (ca 3, .int)] sz)) (va_Qv (fun (u : (Nat → Nat → Int32)) => f_learn g x q v w = u) (vq_B D (va_A [(qc, k_Co qg ad), (qg, k_Sc g), (ad 0, .inl (ca 0, 367, .inl (x 0))), (ad 1, .inl (ca 1, 367, .inl (x 1))), (ad 2, .inl (ca 2, 367, .inl (x 2))), (ad 3, .inl (ca 3, 367, .inl (x 3)))] sz) [(ca 0, .int), (ca 1, .int), (ca 2, .int), (ca 3, .int)] (fun (u : (Nat → Nat → Int32)) => [(qc, k_Co qg ad), (qg, k_Sc g), (ad 0, .inl (ca 0, 367, .inl (u 0))), (ad 1, .inl (ca 1, 367, .inl (u 1))), (ad 2, .inl (ca 2, 367, .inl (u 2))), (ad 3, .inl (ca 3, 367, .inl (u 3)))])) (va_A [(qc, k_Co qg ad), (qg, k_Sc g), (ad 0, .inl (ca 0, 367, .inl (x 0))), (ad 1, .inl (ca 1, 367, .inl (x 1))), (ad 2, .inl (ca 2, 367, .inl (x 2))), (ad 3, .inl (ca 3, 367, .inl (x 3)))] sz)) 0 0 (va_A [(qc, k_Co qg ad), (qg, k_Sc g), (ad 0, .inl (ca 0, 367, .inl (x 0))), (ad 1, .inl (ca 1, 367, .inl (x 1))), (ad 2, .inl (ca 2, 367, .inl (x 2))), (ad 3, .inl (ca 3, 367, .inl (x 3)))] sz) := by
  refine Met.ofW (cc := b_Co_learn) (maxL := 4) (ret := none) (by decide) rfl ?_
  intro p e s m args below meth c s₁ B hml hv
  obtain ⟨rfl, hsz, hP, hK, hD0, hE⟩ := hv
  have hx := B.exec
  have hb := B.bytes
  have hr := B.returns
  have hts := atoms_spec (ws := w_Co_learn) B.pre
  have hu : ∀ w9 ∈ vU, Cond.before w9 ([.ref qc, .int q, .int v, .int w]).toArray s = true := fun w9 h => hts w9 (List.mem_cons_of_mem _ h)
  have hown : s.vm.findClass R_Co = some m.cls := findClass_of_methodNamed B.named
  have hlocks := B.notSynchronized
  subst hsz
  have hD := hD0.self (sz := s.heap.size)
  generalize hAe : va_A [(qc, k_Co qg ad), (qg, k_Sc g), (ad 0, .inl (ca 0, 367, .inl (x 0))), (ad 1, .inl (ca 1, 367, .inl (x 1))), (ad 2, .inl (ca 2, 367, .inl (x 2))), (ad 3, .inl (ca 3, 367, .inl (x 3)))] s.heap.size = A at hD ⊢
  have hA : ∀ q : Nat, s.heap.size ≤ q → A q := fun q h => by rw [← hAe]; exact Or.inr h
  have hS : va_S A s.heap s.heap [] := va_S.rf
  have hP : va_P D vwCl [(qc, k_Co qg ad), (qg, k_Sc g), (ad 0, .inl (ca 0, 367, .inl (x 0))), (ad 1, .inl (ca 1, 367, .inl (x 1))), (ad 2, .inl (ca 2, 367, .inl (x 2))), (ad 3, .inl (ca 3, 367, .inl (x 3)))] s.heap := hP
  have hl := lv_entry ([.ref qc, .int q, .int v, .int w]) (n := 4) (Nat.le_of_ble_eq_true rfl)
  rw [lg_entry_eq]
  generalize (lg_sl ([.ref qc, .int q, .int v, .int w]) ++ List.replicate (4 - (lg_sl ([.ref qc, .int q, .int v, .int w])).length) Slot.unset).toArray = ls at hl ⊢
  have hl : lv_has ls 4 [(0, .ref qc), (1, .int q), (2, .int v), (3, .int w)] := hl
  refine lv_iload_n hx hb d_Co_learn_0 rfl (lv_at hl 1 rfl) ?_
  refine vq_i (wr := [(qc, k_Co qg ad), (qg, k_Sc g), (ad 0, .inl (ca 0, 367, .inl (x 0))), (ad 1, .inl (ca 1, 367, .inl (x 1))), (ad 2, .inl (ca 2, 367, .inl (x 2))), (ad 3, .inl (ca 3, 367, .inl (x 3)))]) (va_runS (As := [.int q]) (rest := []) ⟨hx, hb, hml, hown, hts⟩ (c_has l D sa s.heap.size q) (va_cwS 1 hts (vg_S (fun w h => List.mem_cons_of_mem _ h) hw_356 hw_357 hw_36 hw_358) rfl rfl rfl (by decide +kernel) ⟨Nat.le_of_ble_eq_true rfl, Nat.le_of_ble_eq_true rfl⟩) (vq_pS hE hK hP hD [] [] rfl (by decide) rfl) rfl rfl hl.1 rfl (lv_room (Nat.le_of_ble_eq_true rfl)) d_Co_learn_1 ⟨Nat.le_of_ble_eq_true rfl, Nat.le_of_ble_eq_true rfl⟩) hP hD hS hA [] [0, 1, 2, 3, 4, 5] rfl rfl (by decide) (by decide) (fun r_1 u_1 H locs e_1 hP hD hS => ?_)
  have hP : va_P D vwCl [(qc, k_Co qg ad), (qg, k_Sc g), (ad 0, .inl (ca 0, 367, .inl (x 0))), (ad 1, .inl (ca 1, 367, .inl (x 1))), (ad 2, .inl (ca 2, 367, .inl (x 2))), (ad 3, .inl (ca 3, 367, .inl (x 3)))] H := hP
  have hD : va_D A [(qc, k_Co qg ad), (qg, k_Sc g), (ad 0, .inl (ca 0, 367, .inl (x 0))), (ad 1, .inl (ca 1, 367, .inl (x 1))), (ad 2, .inl (ca 2, 367, .inl (x 2))), (ad 3, .inl (ca 3, 367, .inl (x 3)))] := hD
  refine lv_if_ne (tgt := 8) hx hb d_Co_learn_4 (by decide) (fun c_3 => ?_) (fun c_3 => ?_)
  · refine lv_iload_n hx hb d_Co_learn_8 rfl (lv_at hl 1 rfl) ?_
    refine vq_i (wr := [(qc, k_Co qg ad), (qg, k_Sc g), (ad 0, .inl (ca 0, 367, .inl (x 0))), (ad 1, .inl (ca 1, 367, .inl (x 1))), (ad 2, .inl (ca 2, 367, .inl (x 2))), (ad 3, .inl (ca 3, 367, .inl (x 3)))]) (va_runS (As := [.int q]) (rest := []) ⟨hx, hb, hml, hown, hts⟩ (c_endsRun l D sa H.size q) (va_cwS 1 hts (vg_S (fun w h => List.mem_cons_of_mem _ h) hw_389 hw_390 hw_36 hw_391) rfl rfl rfl (by decide +kernel) ⟨Nat.le_of_ble_eq_true rfl, Nat.le_of_ble_eq_true rfl⟩) (vq_pS hE hK hP hD [] [] rfl (by decide) rfl) rfl rfl hl.1 rfl (lv_room (Nat.le_of_ble_eq_true rfl)) d_Co_learn_9 ⟨Nat.le_of_ble_eq_true rfl, Nat.le_of_ble_eq_true rfl⟩) hP hD hS hA [] [0, 1, 2, 3, 4, 5] rfl rfl (by decide) (by decide) (fun r_4 u_4 H locs e_4 hP hD hS => ?_)
    have hP : va_P D vwCl [(qc, k_Co qg ad), (qg, k_Sc g), (ad 0, .inl (ca 0, 367, .inl (x 0))), (ad 1, .inl (ca 1, 367, .inl (x 1))), (ad 2, .inl (ca 2, 367, .inl (x 2))), (ad 3, .inl (ca 3, 367, .inl (x 3)))] H := hP
    have hD : va_D A [(qc, k_Co qg ad), (qg, k_Sc g), (ad 0, .inl (ca 0, 367, .inl (x 0))), (ad 1, .inl (ca 1, 367, .inl (x 1))), (ad 2, .inl (ca 2, 367, .inl (x 2))), (ad 3, .inl (ca 3, 367, .inl (x 3)))] := hD
    refine lv_if_eq (tgt := 23) hx hb d_Co_learn_12 (by decide) (fun c_6 => ?_) (fun c_6 => ?_)
    · refine lv_aload_n hx hb d_Co_learn_23 rfl (lv_at hl 0 rfl) ?_
      refine va_get (D := D) (ci := 4) (v := .ref (ad 1)) (C := R_Co) (T := T_Co) (N := 5) hx hb hu in_Co hown hK hP 0 rfl rfl 2 (by decide) (hu _ hw_126) (fun _ h9 => h9) rfl d_Co_learn_24 ?_
      refine lv_iload_n hx hb d_Co_learn_27 rfl (lv_at hl 1 rfl) ?_
      refine lv_dup2_11 hx hb d_Co_learn_28 rfl rfl ?_
      refine va_iald hx hb hK hP 3 1 rfl rfl (vq_hasr (by assumption) (by assumption)) d_Co_learn_29 ?_
      refine lv_iload_n hx hb d_Co_learn_30 rfl (lv_at hl 2 rfl) ?_
      refine lv_aload_n hx hb d_Co_learn_31 rfl (lv_at hl 0 rfl) ?_
      refine va_get (D := D) (ci := 4) (v := .ref qg) (C := R_Co) (T := T_Co) (N := 5) hx hb hu in_Co hown hK hP 0 rfl rfl 0 (by decide) (hu _ hw_124) (fun _ h9 => h9) rfl d_Co_learn_32 ?_
      refine va_get (D := D) (ci := 1) (v := .int (g 2)) (C := R_Sc) (T := T_Sc) (N := 8) hx hb hu in_Sc hown hK hP 1 rfl rfl 2 (by decide) (hu _ hw_87) (fun _ h9 => h9) rfl d_Co_learn_35 ?_
      refine lv_imul hx hb d_Co_learn_38 ?_
      refine lv_iadd hx hb d_Co_learn_39 ?_
      refine va_iast hx hb hK hP hD hS 3 1 rfl rfl (vq_hasr (by assumption) (by assumption)) d_Co_learn_40 (fun H locs hP hD hS => ?_)
      have hP : va_P D vwCl [(qc, k_Co qg ad), (qg, k_Sc g), (ad 0, .inl (ca 0, 367, .inl (x 0))), (ad 1, .inl (ca 1, 367, .inl (upd (x 1) (q).toNatClampNeg (((x 1) (q).toNatClampNeg) + (v * (g 2)))))), (ad 2, .inl (ca 2, 367, .inl (x 2))), (ad 3, .inl (ca 3, 367, .inl (x 3)))] H := hP
      have hD : va_D A [(qc, k_Co qg ad), (qg, k_Sc g), (ad 0, .inl (ca 0, 367, .inl (x 0))), (ad 1, .inl (ca 1, 367, .inl (upd (x 1) (q).toNatClampNeg (((x 1) (q).toNatClampNeg) + (v * (g 2)))))), (ad 2, .inl (ca 2, 367, .inl (x 2))), (ad 3, .inl (ca 3, 367, .inl (x 3)))] := hD
      refine lv_aload_n hx hb d_Co_learn_41 rfl (lv_at hl 0 rfl) ?_
      refine va_get (D := D) (ci := 4) (v := .ref (ad 0)) (C := R_Co) (T := T_Co) (N := 5) hx hb hu in_Co hown hK hP 0 rfl rfl 1 (by decide) (hu _ hw_125) (fun _ h9 => h9) rfl d_Co_learn_42 ?_
      refine lv_iload_n hx hb d_Co_learn_45 rfl (lv_at hl 1 rfl) ?_
      refine lv_dup2_11 hx hb d_Co_learn_46 rfl rfl ?_
      refine va_iald hx hb hK hP 2 0 rfl rfl (vq_hasr (by assumption) (by assumption)) d_Co_learn_47 ?_
      refine lv_iload_n hx hb d_Co_learn_48 rfl (lv_at hl 2 rfl) ?_
      refine va_mabs hx hb (hml.trans hl.1.symm) hown (hu _ hw_392) (hu _ hw_333) (hu _ hw_33) (hu _ hw_334) (Nat.le_of_ble_eq_true rfl) (Nat.le_of_ble_eq_true rfl) (Nat.le_of_ble_eq_true rfl) (Nat.le_of_ble_eq_true rfl) d_Co_learn_49 ?_
      refine W.eq (g2 := F0 m 52 ls [.int (jabs v), .int ((x 0) (q).toNatClampNeg), .int q, .ref (ad 0)]) rfl ?_
      refine lv_iadd hx hb d_Co_learn_52 ?_
      refine va_iast hx hb hK hP hD hS 2 0 rfl rfl (vq_hasr (by assumption) (by assumption)) d_Co_learn_53 (fun H locs hP hD hS => ?_)
      have hP : va_P D vwCl [(qc, k_Co qg ad), (qg, k_Sc g), (ad 0, .inl (ca 0, 367, .inl (upd (x 0) (q).toNatClampNeg (((x 0) (q).toNatClampNeg) + (jabs v))))), (ad 1, .inl (ca 1, 367, .inl (upd (x 1) (q).toNatClampNeg (((x 1) (q).toNatClampNeg) + (v * (g 2)))))), (ad 2, .inl (ca 2, 367, .inl (x 2))), (ad 3, .inl (ca 3, 367, .inl (x 3)))] H := hP
      have hD : va_D A [(qc, k_Co qg ad), (qg, k_Sc g), (ad 0, .inl (ca 0, 367, .inl (upd (x 0) (q).toNatClampNeg (((x 0) (q).toNatClampNeg) + (jabs v))))), (ad 1, .inl (ca 1, 367, .inl (upd (x 1) (q).toNatClampNeg (((x 1) (q).toNatClampNeg) + (v * (g 2)))))), (ad 2, .inl (ca 2, 367, .inl (x 2))), (ad 3, .inl (ca 3, 367, .inl (x 3)))] := hD
      refine lv_aload_n hx hb d_Co_learn_54 rfl (lv_at hl 0 rfl) ?_
      refine va_get (D := D) (ci := 4) (v := .ref (ad 3)) (C := R_Co) (T := T_Co) (N := 5) hx hb hu in_Co hown hK hP 0 rfl rfl 4 (by decide) (hu _ hw_128) (fun _ h9 => h9) rfl d_Co_learn_55 ?_
      refine lv_iload_n hx hb d_Co_learn_58 rfl (lv_at hl 1 rfl) ?_
      refine va_iald hx hb hK hP 5 3 rfl rfl (vq_hasr (by assumption) (by assumption)) d_Co_learn_59 ?_
      refine lv_aload_n hx hb d_Co_learn_60 rfl (lv_at hl 0 rfl) ?_
      refine va_get (D := D) (ci := 4) (v := .ref qg) (C := R_Co) (T := T_Co) (N := 5) hx hb hu in_Co hown hK hP 0 rfl rfl 0 (by decide) (hu _ hw_124) (fun _ h9 => h9) rfl d_Co_learn_61 ?_
      refine va_get (D := D) (ci := 1) (v := .int (g 7)) (C := R_Sc) (T := T_Sc) (N := 8) hx hb hu in_Sc hown hK hP 1 rfl rfl 7 (by decide) (hu _ hw_99) (fun _ h9 => h9) rfl d_Co_learn_64 ?_
      refine lv_icmp_ne (tgt := 127) hx hb d_Co_learn_67 (by decide) (fun c_7 => ?_) (fun c_7 => ?_)
      · refine lv_aload_n hx hb d_Co_learn_127 rfl (lv_at hl 0 rfl) ?_
        refine va_get (D := D) (ci := 4) (v := .ref (ad 3)) (C := R_Co) (T := T_Co) (N := 5) hx hb hu in_Co hown hK hP 0 rfl rfl 4 (by decide) (hu _ hw_128) (fun _ h9 => h9) rfl d_Co_learn_128 ?_
        refine lv_iload_n hx hb d_Co_learn_131 rfl (lv_at hl 1 rfl) ?_
        refine lv_dup2_11 hx hb d_Co_learn_132 rfl rfl ?_
        refine va_iald hx hb hK hP 5 3 rfl rfl (vq_hasr (by assumption) (by assumption)) d_Co_learn_133 ?_
        refine lv_iconst (v := 1) hx hb d_Co_learn_134 (by decide) ?_
        refine lv_iadd hx hb d_Co_learn_135 ?_
        refine va_iast hx hb hK hP hD hS 5 3 rfl rfl (vq_hasr (by assumption) (by assumption)) d_Co_learn_136 (fun H locs hP hD hS => ?_)
        have hP : va_P D vwCl [(qc, k_Co qg ad), (qg, k_Sc g), (ad 0, .inl (ca 0, 367, .inl (upd (x 0) (q).toNatClampNeg (((x 0) (q).toNatClampNeg) + (jabs v))))), (ad 1, .inl (ca 1, 367, .inl (upd (x 1) (q).toNatClampNeg (((x 1) (q).toNatClampNeg) + (v * (g 2)))))), (ad 2, .inl (ca 2, 367, .inl (x 2))), (ad 3, .inl (ca 3, 367, .inl (upd (x 3) (q).toNatClampNeg (((x 3) (q).toNatClampNeg) + 1))))] H := hP
        have hD : va_D A [(qc, k_Co qg ad), (qg, k_Sc g), (ad 0, .inl (ca 0, 367, .inl (upd (x 0) (q).toNatClampNeg (((x 0) (q).toNatClampNeg) + (jabs v))))), (ad 1, .inl (ca 1, 367, .inl (upd (x 1) (q).toNatClampNeg (((x 1) (q).toNatClampNeg) + (v * (g 2)))))), (ad 2, .inl (ca 2, 367, .inl (x 2))), (ad 3, .inl (ca 3, 367, .inl (upd (x 3) (q).toNatClampNeg (((x 3) (q).toNatClampNeg) + 1))))] := hD
        refine lv_aload_n hx hb d_Co_learn_137 rfl (lv_at hl 0 rfl) ?_
        refine lv_iload_n hx hb d_Co_learn_138 rfl (lv_at hl 1 rfl) ?_
        refine vq_v (wr := []) (va_runV (As := [.int q]) (rest := []) ⟨hx, hb, hml, hown, hts⟩ (c_correct l D sa H.size qc qg ad ca g (mkx (upd (x 0) (q).toNatClampNeg (((x 0) (q).toNatClampNeg) + (jabs v))) (upd (x 1) (q).toNatClampNeg (((x 1) (q).toNatClampNeg) + (v * (g 2)))) (x 2) (upd (x 3) (q).toNatClampNeg (((x 3) (q).toNatClampNeg) + 1))) q) (cwV 1 hts (vg_V (fun w h => List.mem_cons_of_mem _ h) hw_415 hw_416 hw_12 hw_36 hw_417) rfl rfl rfl (by decide +kernel) ⟨Nat.le_of_ble_eq_true rfl, Nat.le_of_ble_eq_true rfl⟩) (vq_pV hE hK hP hD [0, 1, 2, 3, 4, 5] [0, 1, 2, 3] rfl (by decide) rfl 4 0 rfl rfl rfl) rfl rfl hl.1 rfl (lv_room (Nat.le_of_ble_eq_true rfl)) d_Co_learn_139 ⟨Nat.le_of_ble_eq_true rfl, Nat.le_of_ble_eq_true rfl⟩) hP hD hS hA [0, 1, 2, 3, 4, 5] [] rfl rfl (by decide) (by decide) (fun x_8 H locs e_8 hP hD hS => ?_)
        have hP : va_P D vwCl [(qc, k_Co qg ad), (qg, k_Sc g), (ad 0, .inl (ca 0, 367, .inl (x_8 0))), (ad 1, .inl (ca 1, 367, .inl (x_8 1))), (ad 2, .inl (ca 2, 367, .inl (x_8 2))), (ad 3, .inl (ca 3, 367, .inl (x_8 3)))] H := hP
        have hD : va_D A [(qc, k_Co qg ad), (qg, k_Sc g), (ad 0, .inl (ca 0, 367, .inl (x_8 0))), (ad 1, .inl (ca 1, 367, .inl (x_8 1))), (ad 2, .inl (ca 2, 367, .inl (x_8 2))), (ad 3, .inl (ca 3, 367, .inl (x_8 3)))] := hD
        have hP9 : va_P D vwCl ([(qc, k_Co qg ad), (qg, k_Sc g), (ad 0, .inl (ca 0, 367, .inl ((mkx (x_8 0) (x_8 1) (x_8 2) (x_8 3)) 0))), (ad 1, .inl (ca 1, 367, .inl ((mkx (x_8 0) (x_8 1) (x_8 2) (x_8 3)) 1))), (ad 2, .inl (ca 2, 367, .inl ((mkx (x_8 0) (x_8 1) (x_8 2) (x_8 3)) 2))), (ad 3, .inl (ca 3, 367, .inl ((mkx (x_8 0) (x_8 1) (x_8 2) (x_8 3)) 3)))]) H := hP.sub [0, 1, 2, 3, 4, 5] rfl
        have hD9 : va_D A ([(qc, k_Co qg ad), (qg, k_Sc g), (ad 0, .inl (ca 0, 367, .inl ((mkx (x_8 0) (x_8 1) (x_8 2) (x_8 3)) 0))), (ad 1, .inl (ca 1, 367, .inl ((mkx (x_8 0) (x_8 1) (x_8 2) (x_8 3)) 1))), (ad 2, .inl (ca 2, 367, .inl ((mkx (x_8 0) (x_8 1) (x_8 2) (x_8 3)) 2))), (ad 3, .inl (ca 3, 367, .inl ((mkx (x_8 0) (x_8 1) (x_8 2) (x_8 3)) 3)))]) := hD.sub [0, 1, 2, 3, 4, 5] (by decide) rfl
        exact W.vret hx hb hr (fun t ht hW => ⟨⟨(mkx (x_8 0) (x_8 1) (x_8 2) (x_8 3)), rfl, by rw [f_learn, e_1, f_learn_2, if_neg c_3, e_4, f_learn_5, if_pos c_6, if_neg c_7, e_8, f_learn_9], by rw [ht]; exact hP9, va_K.moved hW.alike (hK.sub [0, 1, 2, 3] rfl), hD9⟩, hS.F ht⟩) hS.2.2 d_Co_learn_142
      · refine lv_aload_n hx hb d_Co_learn_70 rfl (lv_at hl 0 rfl) ?_
        refine va_get (D := D) (ci := 4) (v := .ref (ad 0)) (C := R_Co) (T := T_Co) (N := 5) hx hb hu in_Co hown hK hP 0 rfl rfl 1 (by decide) (hu _ hw_125) (fun _ h9 => h9) rfl d_Co_learn_71 ?_
        refine lv_iload_n hx hb d_Co_learn_74 rfl (lv_at hl 1 rfl) ?_
        refine lv_dup2_11 hx hb d_Co_learn_75 rfl rfl ?_
        refine va_iald hx hb hK hP 2 0 rfl rfl (vq_hasr (by assumption) (by assumption)) d_Co_learn_76 ?_
        refine lv_iconst (v := 2) hx hb d_Co_learn_77 (by decide) ?_
        refine lv_idiv hx hb d_Co_learn_78 (by decide) ?_
        refine va_iast hx hb hK hP hD hS 2 0 rfl rfl (vq_hasr (by assumption) (by assumption)) d_Co_learn_79 (fun H locs hP hD hS => ?_)
        have hP : va_P D vwCl [(qc, k_Co qg ad), (qg, k_Sc g), (ad 0, .inl (ca 0, 367, .inl (upd (upd (x 0) (q).toNatClampNeg (((x 0) (q).toNatClampNeg) + (jabs v))) (q).toNatClampNeg (((upd (x 0) (q).toNatClampNeg (((x 0) (q).toNatClampNeg) + (jabs v))) (q).toNatClampNeg) / 2)))), (ad 1, .inl (ca 1, 367, .inl (upd (x 1) (q).toNatClampNeg (((x 1) (q).toNatClampNeg) + (v * (g 2)))))), (ad 2, .inl (ca 2, 367, .inl (x 2))), (ad 3, .inl (ca 3, 367, .inl (x 3)))] H := hP
        have hD : va_D A [(qc, k_Co qg ad), (qg, k_Sc g), (ad 0, .inl (ca 0, 367, .inl (upd (upd (x 0) (q).toNatClampNeg (((x 0) (q).toNatClampNeg) + (jabs v))) (q).toNatClampNeg (((upd (x 0) (q).toNatClampNeg (((x 0) (q).toNatClampNeg) + (jabs v))) (q).toNatClampNeg) / 2)))), (ad 1, .inl (ca 1, 367, .inl (upd (x 1) (q).toNatClampNeg (((x 1) (q).toNatClampNeg) + (v * (g 2)))))), (ad 2, .inl (ca 2, 367, .inl (x 2))), (ad 3, .inl (ca 3, 367, .inl (x 3)))] := hD
        refine lv_aload_n hx hb d_Co_learn_80 rfl (lv_at hl 0 rfl) ?_
        refine va_get (D := D) (ci := 4) (v := .ref (ad 3)) (C := R_Co) (T := T_Co) (N := 5) hx hb hu in_Co hown hK hP 0 rfl rfl 4 (by decide) (hu _ hw_128) (fun _ h9 => h9) rfl d_Co_learn_81 ?_
        refine lv_iload_n hx hb d_Co_learn_84 rfl (lv_at hl 1 rfl) ?_
        refine lv_dup2_11 hx hb d_Co_learn_85 rfl rfl ?_
        refine va_iald hx hb hK hP 5 3 rfl rfl (vq_hasr (by assumption) (by assumption)) d_Co_learn_86 ?_
        refine lv_iconst (v := 2) hx hb d_Co_learn_87 (by decide) ?_
        refine lv_idiv hx hb d_Co_learn_88 (by decide) ?_
        refine va_iast hx hb hK hP hD hS 5 3 rfl rfl (vq_hasr (by assumption) (by assumption)) d_Co_learn_89 (fun H locs hP hD hS => ?_)
        have hP : va_P D vwCl [(qc, k_Co qg ad), (qg, k_Sc g), (ad 0, .inl (ca 0, 367, .inl (upd (upd (x 0) (q).toNatClampNeg (((x 0) (q).toNatClampNeg) + (jabs v))) (q).toNatClampNeg (((upd (x 0) (q).toNatClampNeg (((x 0) (q).toNatClampNeg) + (jabs v))) (q).toNatClampNeg) / 2)))), (ad 1, .inl (ca 1, 367, .inl (upd (x 1) (q).toNatClampNeg (((x 1) (q).toNatClampNeg) + (v * (g 2)))))), (ad 2, .inl (ca 2, 367, .inl (x 2))), (ad 3, .inl (ca 3, 367, .inl (upd (x 3) (q).toNatClampNeg (((x 3) (q).toNatClampNeg) / 2))))] H := hP
        have hD : va_D A [(qc, k_Co qg ad), (qg, k_Sc g), (ad 0, .inl (ca 0, 367, .inl (upd (upd (x 0) (q).toNatClampNeg (((x 0) (q).toNatClampNeg) + (jabs v))) (q).toNatClampNeg (((upd (x 0) (q).toNatClampNeg (((x 0) (q).toNatClampNeg) + (jabs v))) (q).toNatClampNeg) / 2)))), (ad 1, .inl (ca 1, 367, .inl (upd (x 1) (q).toNatClampNeg (((x 1) (q).toNatClampNeg) + (v * (g 2)))))), (ad 2, .inl (ca 2, 367, .inl (x 2))), (ad 3, .inl (ca 3, 367, .inl (upd (x 3) (q).toNatClampNeg (((x 3) (q).toNatClampNeg) / 2))))] := hD
        refine lv_aload_n hx hb d_Co_learn_90 rfl (lv_at hl 0 rfl) ?_
        refine va_get (D := D) (ci := 4) (v := .ref (ad 1)) (C := R_Co) (T := T_Co) (N := 5) hx hb hu in_Co hown hK hP 0 rfl rfl 2 (by decide) (hu _ hw_126) (fun _ h9 => h9) rfl d_Co_learn_91 ?_
        refine lv_iload_n hx hb d_Co_learn_94 rfl (lv_at hl 1 rfl) ?_
        refine lv_aload_n hx hb d_Co_learn_95 rfl (lv_at hl 0 rfl) ?_
        refine va_get (D := D) (ci := 4) (v := .ref (ad 1)) (C := R_Co) (T := T_Co) (N := 5) hx hb hu in_Co hown hK hP 0 rfl rfl 2 (by decide) (hu _ hw_126) (fun _ h9 => h9) rfl d_Co_learn_96 ?_
        refine lv_iload_n hx hb d_Co_learn_99 rfl (lv_at hl 1 rfl) ?_
        refine va_iald hx hb hK hP 3 1 rfl rfl (vq_hasr (by assumption) (by assumption)) d_Co_learn_100 ?_
        refine lv_if_ge (tgt := 118) hx hb d_Co_learn_101 (by decide) (fun c_10 => ?_) (fun c_10 => ?_)
        · refine lv_aload_n hx hb d_Co_learn_118 rfl (lv_at hl 0 rfl) ?_
          refine va_get (D := D) (ci := 4) (v := .ref (ad 1)) (C := R_Co) (T := T_Co) (N := 5) hx hb hu in_Co hown hK hP 0 rfl rfl 2 (by decide) (hu _ hw_126) (fun _ h9 => h9) rfl d_Co_learn_119 ?_
          refine lv_iload_n hx hb d_Co_learn_122 rfl (lv_at hl 1 rfl) ?_
          refine va_iald hx hb hK hP 3 1 rfl rfl (vq_hasr (by assumption) (by assumption)) d_Co_learn_123 ?_
          refine lv_iconst (v := 2) hx hb d_Co_learn_124 (by decide) ?_
          refine lv_idiv hx hb d_Co_learn_125 (by decide) ?_
          refine va_iast hx hb hK hP hD hS 3 1 rfl rfl (vq_hasr (by assumption) (by assumption)) d_Co_learn_126 (fun H locs hP hD hS => ?_)
          have hP : va_P D vwCl [(qc, k_Co qg ad), (qg, k_Sc g), (ad 0, .inl (ca 0, 367, .inl (upd (upd (x 0) (q).toNatClampNeg (((x 0) (q).toNatClampNeg) + (jabs v))) (q).toNatClampNeg (((upd (x 0) (q).toNatClampNeg (((x 0) (q).toNatClampNeg) + (jabs v))) (q).toNatClampNeg) / 2)))), (ad 1, .inl (ca 1, 367, .inl (upd (upd (x 1) (q).toNatClampNeg (((x 1) (q).toNatClampNeg) + (v * (g 2)))) (q).toNatClampNeg (((upd (x 1) (q).toNatClampNeg (((x 1) (q).toNatClampNeg) + (v * (g 2)))) (q).toNatClampNeg) / 2)))), (ad 2, .inl (ca 2, 367, .inl (x 2))), (ad 3, .inl (ca 3, 367, .inl (upd (x 3) (q).toNatClampNeg (((x 3) (q).toNatClampNeg) / 2))))] H := hP
          have hD : va_D A [(qc, k_Co qg ad), (qg, k_Sc g), (ad 0, .inl (ca 0, 367, .inl (upd (upd (x 0) (q).toNatClampNeg (((x 0) (q).toNatClampNeg) + (jabs v))) (q).toNatClampNeg (((upd (x 0) (q).toNatClampNeg (((x 0) (q).toNatClampNeg) + (jabs v))) (q).toNatClampNeg) / 2)))), (ad 1, .inl (ca 1, 367, .inl (upd (upd (x 1) (q).toNatClampNeg (((x 1) (q).toNatClampNeg) + (v * (g 2)))) (q).toNatClampNeg (((upd (x 1) (q).toNatClampNeg (((x 1) (q).toNatClampNeg) + (v * (g 2)))) (q).toNatClampNeg) / 2)))), (ad 2, .inl (ca 2, 367, .inl (x 2))), (ad 3, .inl (ca 3, 367, .inl (upd (x 3) (q).toNatClampNeg (((x 3) (q).toNatClampNeg) / 2))))] := hD
          refine lv_aload_n hx hb d_Co_learn_127 rfl (lv_at hl 0 rfl) ?_
          refine va_get (D := D) (ci := 4) (v := .ref (ad 3)) (C := R_Co) (T := T_Co) (N := 5) hx hb hu in_Co hown hK hP 0 rfl rfl 4 (by decide) (hu _ hw_128) (fun _ h9 => h9) rfl d_Co_learn_128 ?_
          refine lv_iload_n hx hb d_Co_learn_131 rfl (lv_at hl 1 rfl) ?_
          refine lv_dup2_11 hx hb d_Co_learn_132 rfl rfl ?_
          refine va_iald hx hb hK hP 5 3 rfl rfl (vq_hasr (by assumption) (by assumption)) d_Co_learn_133 ?_
          refine lv_iconst (v := 1) hx hb d_Co_learn_134 (by decide) ?_
          refine lv_iadd hx hb d_Co_learn_135 ?_
          refine va_iast hx hb hK hP hD hS 5 3 rfl rfl (vq_hasr (by assumption) (by assumption)) d_Co_learn_136 (fun H locs hP hD hS => ?_)
          have hP : va_P D vwCl [(qc, k_Co qg ad), (qg, k_Sc g), (ad 0, .inl (ca 0, 367, .inl (upd (upd (x 0) (q).toNatClampNeg (((x 0) (q).toNatClampNeg) + (jabs v))) (q).toNatClampNeg (((upd (x 0) (q).toNatClampNeg (((x 0) (q).toNatClampNeg) + (jabs v))) (q).toNatClampNeg) / 2)))), (ad 1, .inl (ca 1, 367, .inl (upd (upd (x 1) (q).toNatClampNeg (((x 1) (q).toNatClampNeg) + (v * (g 2)))) (q).toNatClampNeg (((upd (x 1) (q).toNatClampNeg (((x 1) (q).toNatClampNeg) + (v * (g 2)))) (q).toNatClampNeg) / 2)))), (ad 2, .inl (ca 2, 367, .inl (x 2))), (ad 3, .inl (ca 3, 367, .inl (upd (upd (x 3) (q).toNatClampNeg (((x 3) (q).toNatClampNeg) / 2)) (q).toNatClampNeg (((upd (x 3) (q).toNatClampNeg (((x 3) (q).toNatClampNeg) / 2)) (q).toNatClampNeg) + 1))))] H := hP
          have hD : va_D A [(qc, k_Co qg ad), (qg, k_Sc g), (ad 0, .inl (ca 0, 367, .inl (upd (upd (x 0) (q).toNatClampNeg (((x 0) (q).toNatClampNeg) + (jabs v))) (q).toNatClampNeg (((upd (x 0) (q).toNatClampNeg (((x 0) (q).toNatClampNeg) + (jabs v))) (q).toNatClampNeg) / 2)))), (ad 1, .inl (ca 1, 367, .inl (upd (upd (x 1) (q).toNatClampNeg (((x 1) (q).toNatClampNeg) + (v * (g 2)))) (q).toNatClampNeg (((upd (x 1) (q).toNatClampNeg (((x 1) (q).toNatClampNeg) + (v * (g 2)))) (q).toNatClampNeg) / 2)))), (ad 2, .inl (ca 2, 367, .inl (x 2))), (ad 3, .inl (ca 3, 367, .inl (upd (upd (x 3) (q).toNatClampNeg (((x 3) (q).toNatClampNeg) / 2)) (q).toNatClampNeg (((upd (x 3) (q).toNatClampNeg (((x 3) (q).toNatClampNeg) / 2)) (q).toNatClampNeg) + 1))))] := hD
          refine lv_aload_n hx hb d_Co_learn_137 rfl (lv_at hl 0 rfl) ?_
          refine lv_iload_n hx hb d_Co_learn_138 rfl (lv_at hl 1 rfl) ?_
          refine vq_v (wr := []) (va_runV (As := [.int q]) (rest := []) ⟨hx, hb, hml, hown, hts⟩ (c_correct l D sa H.size qc qg ad ca g (mkx (upd (upd (x 0) (q).toNatClampNeg (((x 0) (q).toNatClampNeg) + (jabs v))) (q).toNatClampNeg (((upd (x 0) (q).toNatClampNeg (((x 0) (q).toNatClampNeg) + (jabs v))) (q).toNatClampNeg) / 2)) (upd (upd (x 1) (q).toNatClampNeg (((x 1) (q).toNatClampNeg) + (v * (g 2)))) (q).toNatClampNeg (((upd (x 1) (q).toNatClampNeg (((x 1) (q).toNatClampNeg) + (v * (g 2)))) (q).toNatClampNeg) / 2)) (x 2) (upd (upd (x 3) (q).toNatClampNeg (((x 3) (q).toNatClampNeg) / 2)) (q).toNatClampNeg (((upd (x 3) (q).toNatClampNeg (((x 3) (q).toNatClampNeg) / 2)) (q).toNatClampNeg) + 1))) q) (cwV 1 hts (vg_V (fun w h => List.mem_cons_of_mem _ h) hw_415 hw_416 hw_12 hw_36 hw_417) rfl rfl rfl (by decide +kernel) ⟨Nat.le_of_ble_eq_true rfl, Nat.le_of_ble_eq_true rfl⟩) (vq_pV hE hK hP hD [0, 1, 2, 3, 4, 5] [0, 1, 2, 3] rfl (by decide) rfl 4 0 rfl rfl rfl) rfl rfl hl.1 rfl (lv_room (Nat.le_of_ble_eq_true rfl)) d_Co_learn_139 ⟨Nat.le_of_ble_eq_true rfl, Nat.le_of_ble_eq_true rfl⟩) hP hD hS hA [0, 1, 2, 3, 4, 5] [] rfl rfl (by decide) (by decide) (fun x_11 H locs e_11 hP hD hS => ?_)
          have hP : va_P D vwCl [(qc, k_Co qg ad), (qg, k_Sc g), (ad 0, .inl (ca 0, 367, .inl (x_11 0))), (ad 1, .inl (ca 1, 367, .inl (x_11 1))), (ad 2, .inl (ca 2, 367, .inl (x_11 2))), (ad 3, .inl (ca 3, 367, .inl (x_11 3)))] H := hP
          have hD : va_D A [(qc, k_Co qg ad), (qg, k_Sc g), (ad 0, .inl (ca 0, 367, .inl (x_11 0))), (ad 1, .inl (ca 1, 367, .inl (x_11 1))), (ad 2, .inl (ca 2, 367, .inl (x_11 2))), (ad 3, .inl (ca 3, 367, .inl (x_11 3)))] := hD
          have hP9 : va_P D vwCl ([(qc, k_Co qg ad), (qg, k_Sc g), (ad 0, .inl (ca 0, 367, .inl ((mkx (x_11 0) (x_11 1) (x_11 2) (x_11 3)) 0))), (ad 1, .inl (ca 1, 367, .inl ((mkx (x_11 0) (x_11 1) (x_11 2) (x_11 3)) 1))), (ad 2, .inl (ca 2, 367, .inl ((mkx (x_11 0) (x_11 1) (x_11 2) (x_11 3)) 2))), (ad 3, .inl (ca 3, 367, .inl ((mkx (x_11 0) (x_11 1) (x_11 2) (x_11 3)) 3)))]) H := hP.sub [0, 1, 2, 3, 4, 5] rfl
          have hD9 : va_D A ([(qc, k_Co qg ad), (qg, k_Sc g), (ad 0, .inl (ca 0, 367, .inl ((mkx (x_11 0) (x_11 1) (x_11 2) (x_11 3)) 0))), (ad 1, .inl (ca 1, 367, .inl ((mkx (x_11 0) (x_11 1) (x_11 2) (x_11 3)) 1))), (ad 2, .inl (ca 2, 367, .inl ((mkx (x_11 0) (x_11 1) (x_11 2) (x_11 3)) 2))), (ad 3, .inl (ca 3, 367, .inl ((mkx (x_11 0) (x_11 1) (x_11 2) (x_11 3)) 3)))]) := hD.sub [0, 1, 2, 3, 4, 5] (by decide) rfl
          exact W.vret hx hb hr (fun t ht hW => ⟨⟨(mkx (x_11 0) (x_11 1) (x_11 2) (x_11 3)), rfl, by rw [f_learn, e_1, f_learn_2, if_neg c_3, e_4, f_learn_5, if_pos c_6, if_pos c_7, if_pos c_10, e_11, f_learn_12], by rw [ht]; exact hP9, va_K.moved hW.alike (hK.sub [0, 1, 2, 3] rfl), hD9⟩, hS.F ht⟩) hS.2.2 d_Co_learn_142
        · refine lv_iconst (v := 1) hx hb d_Co_learn_104 (by decide) ?_
          refine lv_aload_n hx hb d_Co_learn_105 rfl (lv_at hl 0 rfl) ?_
          refine va_get (D := D) (ci := 4) (v := .ref (ad 1)) (C := R_Co) (T := T_Co) (N := 5) hx hb hu in_Co hown hK hP 0 rfl rfl 2 (by decide) (hu _ hw_126) (fun _ h9 => h9) rfl d_Co_learn_106 ?_
          refine lv_iload_n hx hb d_Co_learn_109 rfl (lv_at hl 1 rfl) ?_
          refine va_iald hx hb hK hP 3 1 rfl rfl (vq_hasr (by assumption) (by assumption)) d_Co_learn_110 ?_
          refine lv_isub hx hb d_Co_learn_111 ?_
          refine lv_iconst (v := 2) hx hb d_Co_learn_112 (by decide) ?_
          refine lv_idiv hx hb d_Co_learn_113 (by decide) ?_
          refine lv_ineg hx hb d_Co_learn_114 ?_
          refine lv_goto (tgt := 126) hx hb d_Co_learn_115 (by decide) ?_
          refine va_iast hx hb hK hP hD hS 3 1 rfl rfl (vq_hasr (by assumption) (by assumption)) d_Co_learn_126 (fun H locs hP hD hS => ?_)
          have hP : va_P D vwCl [(qc, k_Co qg ad), (qg, k_Sc g), (ad 0, .inl (ca 0, 367, .inl (upd (upd (x 0) (q).toNatClampNeg (((x 0) (q).toNatClampNeg) + (jabs v))) (q).toNatClampNeg (((upd (x 0) (q).toNatClampNeg (((x 0) (q).toNatClampNeg) + (jabs v))) (q).toNatClampNeg) / 2)))), (ad 1, .inl (ca 1, 367, .inl (upd (upd (x 1) (q).toNatClampNeg (((x 1) (q).toNatClampNeg) + (v * (g 2)))) (q).toNatClampNeg (-((1 - ((upd (x 1) (q).toNatClampNeg (((x 1) (q).toNatClampNeg) + (v * (g 2)))) (q).toNatClampNeg)) / 2))))), (ad 2, .inl (ca 2, 367, .inl (x 2))), (ad 3, .inl (ca 3, 367, .inl (upd (x 3) (q).toNatClampNeg (((x 3) (q).toNatClampNeg) / 2))))] H := hP
          have hD : va_D A [(qc, k_Co qg ad), (qg, k_Sc g), (ad 0, .inl (ca 0, 367, .inl (upd (upd (x 0) (q).toNatClampNeg (((x 0) (q).toNatClampNeg) + (jabs v))) (q).toNatClampNeg (((upd (x 0) (q).toNatClampNeg (((x 0) (q).toNatClampNeg) + (jabs v))) (q).toNatClampNeg) / 2)))), (ad 1, .inl (ca 1, 367, .inl (upd (upd (x 1) (q).toNatClampNeg (((x 1) (q).toNatClampNeg) + (v * (g 2)))) (q).toNatClampNeg (-((1 - ((upd (x 1) (q).toNatClampNeg (((x 1) (q).toNatClampNeg) + (v * (g 2)))) (q).toNatClampNeg)) / 2))))), (ad 2, .inl (ca 2, 367, .inl (x 2))), (ad 3, .inl (ca 3, 367, .inl (upd (x 3) (q).toNatClampNeg (((x 3) (q).toNatClampNeg) / 2))))] := hD
          refine lv_aload_n hx hb d_Co_learn_127 rfl (lv_at hl 0 rfl) ?_
          refine va_get (D := D) (ci := 4) (v := .ref (ad 3)) (C := R_Co) (T := T_Co) (N := 5) hx hb hu in_Co hown hK hP 0 rfl rfl 4 (by decide) (hu _ hw_128) (fun _ h9 => h9) rfl d_Co_learn_128 ?_
          refine lv_iload_n hx hb d_Co_learn_131 rfl (lv_at hl 1 rfl) ?_
          refine lv_dup2_11 hx hb d_Co_learn_132 rfl rfl ?_
          refine va_iald hx hb hK hP 5 3 rfl rfl (vq_hasr (by assumption) (by assumption)) d_Co_learn_133 ?_
          refine lv_iconst (v := 1) hx hb d_Co_learn_134 (by decide) ?_
          refine lv_iadd hx hb d_Co_learn_135 ?_
          refine va_iast hx hb hK hP hD hS 5 3 rfl rfl (vq_hasr (by assumption) (by assumption)) d_Co_learn_136 (fun H locs hP hD hS => ?_)
          have hP : va_P D vwCl [(qc, k_Co qg ad), (qg, k_Sc g), (ad 0, .inl (ca 0, 367, .inl (upd (upd (x 0) (q).toNatClampNeg (((x 0) (q).toNatClampNeg) + (jabs v))) (q).toNatClampNeg (((upd (x 0) (q).toNatClampNeg (((x 0) (q).toNatClampNeg) + (jabs v))) (q).toNatClampNeg) / 2)))), (ad 1, .inl (ca 1, 367, .inl (upd (upd (x 1) (q).toNatClampNeg (((x 1) (q).toNatClampNeg) + (v * (g 2)))) (q).toNatClampNeg (-((1 - ((upd (x 1) (q).toNatClampNeg (((x 1) (q).toNatClampNeg) + (v * (g 2)))) (q).toNatClampNeg)) / 2))))), (ad 2, .inl (ca 2, 367, .inl (x 2))), (ad 3, .inl (ca 3, 367, .inl (upd (upd (x 3) (q).toNatClampNeg (((x 3) (q).toNatClampNeg) / 2)) (q).toNatClampNeg (((upd (x 3) (q).toNatClampNeg (((x 3) (q).toNatClampNeg) / 2)) (q).toNatClampNeg) + 1))))] H := hP
          have hD : va_D A [(qc, k_Co qg ad), (qg, k_Sc g), (ad 0, .inl (ca 0, 367, .inl (upd (upd (x 0) (q).toNatClampNeg (((x 0) (q).toNatClampNeg) + (jabs v))) (q).toNatClampNeg (((upd (x 0) (q).toNatClampNeg (((x 0) (q).toNatClampNeg) + (jabs v))) (q).toNatClampNeg) / 2)))), (ad 1, .inl (ca 1, 367, .inl (upd (upd (x 1) (q).toNatClampNeg (((x 1) (q).toNatClampNeg) + (v * (g 2)))) (q).toNatClampNeg (-((1 - ((upd (x 1) (q).toNatClampNeg (((x 1) (q).toNatClampNeg) + (v * (g 2)))) (q).toNatClampNeg)) / 2))))), (ad 2, .inl (ca 2, 367, .inl (x 2))), (ad 3, .inl (ca 3, 367, .inl (upd (upd (x 3) (q).toNatClampNeg (((x 3) (q).toNatClampNeg) / 2)) (q).toNatClampNeg (((upd (x 3) (q).toNatClampNeg (((x 3) (q).toNatClampNeg) / 2)) (q).toNatClampNeg) + 1))))] := hD
          refine lv_aload_n hx hb d_Co_learn_137 rfl (lv_at hl 0 rfl) ?_
          refine lv_iload_n hx hb d_Co_learn_138 rfl (lv_at hl 1 rfl) ?_
          refine vq_v (wr := []) (va_runV (As := [.int q]) (rest := []) ⟨hx, hb, hml, hown, hts⟩ (c_correct l D sa H.size qc qg ad ca g (mkx (upd (upd (x 0) (q).toNatClampNeg (((x 0) (q).toNatClampNeg) + (jabs v))) (q).toNatClampNeg (((upd (x 0) (q).toNatClampNeg (((x 0) (q).toNatClampNeg) + (jabs v))) (q).toNatClampNeg) / 2)) (upd (upd (x 1) (q).toNatClampNeg (((x 1) (q).toNatClampNeg) + (v * (g 2)))) (q).toNatClampNeg (-((1 - ((upd (x 1) (q).toNatClampNeg (((x 1) (q).toNatClampNeg) + (v * (g 2)))) (q).toNatClampNeg)) / 2))) (x 2) (upd (upd (x 3) (q).toNatClampNeg (((x 3) (q).toNatClampNeg) / 2)) (q).toNatClampNeg (((upd (x 3) (q).toNatClampNeg (((x 3) (q).toNatClampNeg) / 2)) (q).toNatClampNeg) + 1))) q) (cwV 1 hts (vg_V (fun w h => List.mem_cons_of_mem _ h) hw_415 hw_416 hw_12 hw_36 hw_417) rfl rfl rfl (by decide +kernel) ⟨Nat.le_of_ble_eq_true rfl, Nat.le_of_ble_eq_true rfl⟩) (vq_pV hE hK hP hD [0, 1, 2, 3, 4, 5] [0, 1, 2, 3] rfl (by decide) rfl 4 0 rfl rfl rfl) rfl rfl hl.1 rfl (lv_room (Nat.le_of_ble_eq_true rfl)) d_Co_learn_139 ⟨Nat.le_of_ble_eq_true rfl, Nat.le_of_ble_eq_true rfl⟩) hP hD hS hA [0, 1, 2, 3, 4, 5] [] rfl rfl (by decide) (by decide) (fun x_13 H locs e_13 hP hD hS => ?_)
          have hP : va_P D vwCl [(qc, k_Co qg ad), (qg, k_Sc g), (ad 0, .inl (ca 0, 367, .inl (x_13 0))), (ad 1, .inl (ca 1, 367, .inl (x_13 1))), (ad 2, .inl (ca 2, 367, .inl (x_13 2))), (ad 3, .inl (ca 3, 367, .inl (x_13 3)))] H := hP
          have hD : va_D A [(qc, k_Co qg ad), (qg, k_Sc g), (ad 0, .inl (ca 0, 367, .inl (x_13 0))), (ad 1, .inl (ca 1, 367, .inl (x_13 1))), (ad 2, .inl (ca 2, 367, .inl (x_13 2))), (ad 3, .inl (ca 3, 367, .inl (x_13 3)))] := hD
          have hP9 : va_P D vwCl ([(qc, k_Co qg ad), (qg, k_Sc g), (ad 0, .inl (ca 0, 367, .inl ((mkx (x_13 0) (x_13 1) (x_13 2) (x_13 3)) 0))), (ad 1, .inl (ca 1, 367, .inl ((mkx (x_13 0) (x_13 1) (x_13 2) (x_13 3)) 1))), (ad 2, .inl (ca 2, 367, .inl ((mkx (x_13 0) (x_13 1) (x_13 2) (x_13 3)) 2))), (ad 3, .inl (ca 3, 367, .inl ((mkx (x_13 0) (x_13 1) (x_13 2) (x_13 3)) 3)))]) H := hP.sub [0, 1, 2, 3, 4, 5] rfl
          have hD9 : va_D A ([(qc, k_Co qg ad), (qg, k_Sc g), (ad 0, .inl (ca 0, 367, .inl ((mkx (x_13 0) (x_13 1) (x_13 2) (x_13 3)) 0))), (ad 1, .inl (ca 1, 367, .inl ((mkx (x_13 0) (x_13 1) (x_13 2) (x_13 3)) 1))), (ad 2, .inl (ca 2, 367, .inl ((mkx (x_13 0) (x_13 1) (x_13 2) (x_13 3)) 2))), (ad 3, .inl (ca 3, 367, .inl ((mkx (x_13 0) (x_13 1) (x_13 2) (x_13 3)) 3)))]) := hD.sub [0, 1, 2, 3, 4, 5] (by decide) rfl
          exact W.vret hx hb hr (fun t ht hW => ⟨⟨(mkx (x_13 0) (x_13 1) (x_13 2) (x_13 3)), rfl, by rw [f_learn, e_1, f_learn_2, if_neg c_3, e_4, f_learn_5, if_pos c_6, if_pos c_7, if_neg c_10, e_13, f_learn_14], by rw [ht]; exact hP9, va_K.moved hW.alike (hK.sub [0, 1, 2, 3] rfl), hD9⟩, hS.F ht⟩) hS.2.2 d_Co_learn_142
    · refine lv_aload_n hx hb d_Co_learn_15 rfl (lv_at hl 0 rfl) ?_
      refine lv_iload_n hx hb d_Co_learn_16 rfl (lv_at hl 1 rfl) ?_
      refine lv_iload_n hx hb d_Co_learn_17 rfl (lv_at hl 2 rfl) ?_
      refine lv_iload_n hx hb d_Co_learn_18 rfl (lv_at hl 3 rfl) ?_
      refine vq_v (wr := []) (va_runV (As := [.int q, .int v, .int w]) (rest := []) ⟨hx, hb, hml, hown, hts⟩ (c_learnEnd l D sa H.size qc qg ad ca g x q v w) (cwV 3 hts (vg_V (fun w h => List.mem_cons_of_mem _ h) hw_412 hw_413 hw_11 hw_36 hw_414) rfl rfl rfl (by decide +kernel) ⟨Nat.le_of_ble_eq_true rfl, Nat.le_of_ble_eq_true rfl⟩) (vq_pV hE hK hP hD [0, 1, 2, 3, 4, 5] [0, 1, 2, 3] rfl (by decide) rfl 4 0 rfl rfl rfl) rfl rfl hl.1 rfl (lv_room (Nat.le_of_ble_eq_true rfl)) d_Co_learn_19 ⟨Nat.le_of_ble_eq_true rfl, Nat.le_of_ble_eq_true rfl⟩) hP hD hS hA [0, 1, 2, 3, 4, 5] [] rfl rfl (by decide) (by decide) (fun x_15 H locs e_15 hP hD hS => ?_)
      have hP : va_P D vwCl [(qc, k_Co qg ad), (qg, k_Sc g), (ad 0, .inl (ca 0, 367, .inl (x_15 0))), (ad 1, .inl (ca 1, 367, .inl (x_15 1))), (ad 2, .inl (ca 2, 367, .inl (x_15 2))), (ad 3, .inl (ca 3, 367, .inl (x_15 3)))] H := hP
      have hD : va_D A [(qc, k_Co qg ad), (qg, k_Sc g), (ad 0, .inl (ca 0, 367, .inl (x_15 0))), (ad 1, .inl (ca 1, 367, .inl (x_15 1))), (ad 2, .inl (ca 2, 367, .inl (x_15 2))), (ad 3, .inl (ca 3, 367, .inl (x_15 3)))] := hD
      have hP9 : va_P D vwCl ([(qc, k_Co qg ad), (qg, k_Sc g), (ad 0, .inl (ca 0, 367, .inl ((mkx (x_15 0) (x_15 1) (x_15 2) (x_15 3)) 0))), (ad 1, .inl (ca 1, 367, .inl ((mkx (x_15 0) (x_15 1) (x_15 2) (x_15 3)) 1))), (ad 2, .inl (ca 2, 367, .inl ((mkx (x_15 0) (x_15 1) (x_15 2) (x_15 3)) 2))), (ad 3, .inl (ca 3, 367, .inl ((mkx (x_15 0) (x_15 1) (x_15 2) (x_15 3)) 3)))]) H := hP.sub [0, 1, 2, 3, 4, 5] rfl
      have hD9 : va_D A ([(qc, k_Co qg ad), (qg, k_Sc g), (ad 0, .inl (ca 0, 367, .inl ((mkx (x_15 0) (x_15 1) (x_15 2) (x_15 3)) 0))), (ad 1, .inl (ca 1, 367, .inl ((mkx (x_15 0) (x_15 1) (x_15 2) (x_15 3)) 1))), (ad 2, .inl (ca 2, 367, .inl ((mkx (x_15 0) (x_15 1) (x_15 2) (x_15 3)) 2))), (ad 3, .inl (ca 3, 367, .inl ((mkx (x_15 0) (x_15 1) (x_15 2) (x_15 3)) 3)))]) := hD.sub [0, 1, 2, 3, 4, 5] (by decide) rfl
      exact W.vret hx hb hr (fun t ht hW => ⟨⟨(mkx (x_15 0) (x_15 1) (x_15 2) (x_15 3)), rfl, by rw [f_learn, e_1, f_learn_2, if_neg c_3, e_4, f_learn_5, if_neg c_6, e_15, f_learn_16], by rw [ht]; exact hP9, va_K.moved hW.alike (hK.sub [0, 1, 2, 3] rfl), hD9⟩, hS.F ht⟩) hS.2.2 d_Co_learn_22
  · have hP9 : va_P D vwCl ([(qc, k_Co qg ad), (qg, k_Sc g), (ad 0, .inl (ca 0, 367, .inl (x 0))), (ad 1, .inl (ca 1, 367, .inl (x 1))), (ad 2, .inl (ca 2, 367, .inl (x 2))), (ad 3, .inl (ca 3, 367, .inl (x 3)))]) H := hP.sub [0, 1, 2, 3, 4, 5] rfl
    have hD9 : va_D A ([(qc, k_Co qg ad), (qg, k_Sc g), (ad 0, .inl (ca 0, 367, .inl (x 0))), (ad 1, .inl (ca 1, 367, .inl (x 1))), (ad 2, .inl (ca 2, 367, .inl (x 2))), (ad 3, .inl (ca 3, 367, .inl (x 3)))]) := hD.sub [0, 1, 2, 3, 4, 5] (by decide) rfl
    exact W.vret hx hb hr (fun t ht hW => ⟨⟨x, rfl, by rw [f_learn, e_1, f_learn_2, if_pos c_3], by rw [ht]; exact hP9, va_K.moved hW.alike (hK.sub [0, 1, 2, 3] rfl), hD9⟩, hS.F ht⟩) hS.2.2 d_Co_learn_7
