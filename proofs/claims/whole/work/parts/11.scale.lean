def f_thresholdOr (g : Nat → Int32) (w : Int32) (lo : Int32) : Int32 :=
  if w < lo then lo
  else
    if w ≤ (g 0) then w
    else lo
set_option maxHeartbeats 4000000 in
set_option maxRecDepth 100000 in
theorem c_thresholdOr (l : Launch) (D : va_G) (sa : Nat → Nat) (sz : Nat) (qg : Nat) (g : Nat → Int32) (w : Int32) (lo : Int32)  : Met l y_Sc_thresholdOr w_Sc_thresholdOr ({ frames := 0, cells := 0, slots := 0, locals := 0 }) (va_Pc [.ref qg, .int w, .int lo] (vq_pre D sa [(qg, k_Sc g)] [] sz)) (va_Qi (fun (r0 : Int32) (u : Unit) => f_thresholdOr g w lo = r0) (vq_B D (va_A [(qg, k_Sc g)] sz) [] (fun (u : Unit) => [(qg, k_Sc g)])) (va_A [(qg, k_Sc g)] sz)) 0 0 (va_A [(qg, k_Sc g)] sz) := by
  refine Met.ofW (cc := b_Sc_thresholdOr) (maxL := 3) (ret := (some .int)) (by decide) rfl ?_
  intro p e s m args below meth c s₁ B hml hv
  obtain ⟨rfl, hsz, hP, hK, hD0, hE⟩ := hv
  have hx := B.exec
  have hb := B.bytes
  have hr := B.returns
  have hts := atoms_spec (ws := w_Sc_thresholdOr) B.pre
  have hu : ∀ w9 ∈ vU, Cond.before w9 ([.ref qg, .int w, .int lo]).toArray s = true := fun w9 h => hts w9 (List.mem_cons_of_mem _ h)
  have hown : s.vm.findClass R_Sc = some m.cls := findClass_of_methodNamed B.named
  have hlocks := B.notSynchronized
  subst hsz
  have hD := hD0.self (sz := s.heap.size)
  generalize hAe : va_A [(qg, k_Sc g)] s.heap.size = A at hD ⊢
  have hA : ∀ q : Nat, s.heap.size ≤ q → A q := fun q h => by rw [← hAe]; exact Or.inr h
  have hS : va_S A s.heap s.heap [] := va_S.rf
  have hP : va_P D vwCl [(qg, k_Sc g)] s.heap := hP
  have hl := lv_entry ([.ref qg, .int w, .int lo]) (n := 3) (Nat.le_of_ble_eq_true rfl)
  rw [lg_entry_eq]
  generalize (lg_sl ([.ref qg, .int w, .int lo]) ++ List.replicate (3 - (lg_sl ([.ref qg, .int w, .int lo])).length) Slot.unset).toArray = ls at hl ⊢
  have hl : lv_has ls 3 [(0, .ref qg), (1, .int w), (2, .int lo)] := hl
  refine lv_iload_n hx hb d_Sc_thresholdOr_0 rfl (lv_at hl 1 rfl) ?_
  refine lv_iload_n hx hb d_Sc_thresholdOr_1 rfl (lv_at hl 2 rfl) ?_
  refine lv_icmp_lt (tgt := 13) hx hb d_Sc_thresholdOr_2 (by decide) (fun c_1 => ?_) (fun c_1 => ?_)
  · refine lv_iload_n hx hb d_Sc_thresholdOr_13 rfl (lv_at hl 2 rfl) ?_
    refine lv_goto (tgt := 18) hx hb d_Sc_thresholdOr_14 (by decide) ?_
    have hP9 : va_P D vwCl ([(qg, k_Sc g)]) s.heap := hP.sub [0] rfl
    have hD9 : va_D A ([(qg, k_Sc g)]) := hD.sub [0] (by decide) rfl
    exact W.iret (v := lo) hx hb hr (fun t ht hW => ⟨⟨lo, (), rfl, by rw [f_thresholdOr, if_pos c_1], by rw [ht]; exact hP9, va_K.moved hW.alike (hK.sub [] rfl), hD9⟩, hS.F ht⟩) hS.2.2 d_Sc_thresholdOr_18
  · refine lv_iload_n hx hb d_Sc_thresholdOr_5 rfl (lv_at hl 1 rfl) ?_
    refine lv_aload_n hx hb d_Sc_thresholdOr_6 rfl (lv_at hl 0 rfl) ?_
    refine va_get (D := D) (ci := 1) (v := .int (g 0)) (C := R_Sc) (T := T_Sc) (N := 8) hx hb hu in_Sc hown hK hP 0 rfl rfl 0 (by decide) (hu _ hw_80) (fun _ h9 => h9) rfl d_Sc_thresholdOr_7 ?_
    refine lv_icmp_le (tgt := 17) hx hb d_Sc_thresholdOr_10 (by decide) (fun c_2 => ?_) (fun c_2 => ?_)
    · refine lv_iload_n hx hb d_Sc_thresholdOr_17 rfl (lv_at hl 1 rfl) ?_
      have hP9 : va_P D vwCl ([(qg, k_Sc g)]) s.heap := hP.sub [0] rfl
      have hD9 : va_D A ([(qg, k_Sc g)]) := hD.sub [0] (by decide) rfl
      exact W.iret (v := w) hx hb hr (fun t ht hW => ⟨⟨w, (), rfl, by rw [f_thresholdOr, if_neg c_1, if_pos c_2], by rw [ht]; exact hP9, va_K.moved hW.alike (hK.sub [] rfl), hD9⟩, hS.F ht⟩) hS.2.2 d_Sc_thresholdOr_18
    · refine lv_iload_n hx hb d_Sc_thresholdOr_13 rfl (lv_at hl 2 rfl) ?_
      refine lv_goto (tgt := 18) hx hb d_Sc_thresholdOr_14 (by decide) ?_
      have hP9 : va_P D vwCl ([(qg, k_Sc g)]) s.heap := hP.sub [0] rfl
      have hD9 : va_D A ([(qg, k_Sc g)]) := hD.sub [0] (by decide) rfl
      exact W.iret (v := lo) hx hb hr (fun t ht hW => ⟨⟨lo, (), rfl, by rw [f_thresholdOr, if_neg c_1, if_neg c_2], by rw [ht]; exact hP9, va_K.moved hW.alike (hK.sub [] rfl), hD9⟩, hS.F ht⟩) hS.2.2 d_Sc_thresholdOr_18
def f_isFlat (g : Nat → Int32) (v : Int32) : Int32 :=
  if (g 1) < (jabs v) then 0
  else 1
set_option maxHeartbeats 4000000 in
set_option maxRecDepth 100000 in
theorem c_isFlat (l : Launch) (D : va_G) (sa : Nat → Nat) (sz : Nat) (qg : Nat) (g : Nat → Int32) (v : Int32)  : Met l y_Sc_isFlat w_Sc_isFlat ({ frames := 1, cells := 0, slots := 0, locals := 13 }) (va_Pc [.ref qg, .int v] (vq_pre D sa [(qg, k_Sc g)] [] sz)) (va_Qi (fun (r0 : Int32) (u : Unit) => f_isFlat g v = r0) (vq_B D (va_A [(qg, k_Sc g)] sz) [] (fun (u : Unit) => [(qg, k_Sc g)])) (va_A [(qg, k_Sc g)] sz)) 0 0 (va_A [(qg, k_Sc g)] sz) := by
  refine Met.ofW (cc := b_Sc_isFlat) (maxL := 2) (ret := (some .boolean)) (by decide) rfl ?_
  intro p e s m args below meth c s₁ B hml hv
  obtain ⟨rfl, hsz, hP, hK, hD0, hE⟩ := hv
  have hx := B.exec
  have hb := B.bytes
  have hr := B.returns
  have hts := atoms_spec (ws := w_Sc_isFlat) B.pre
  have hu : ∀ w9 ∈ vU, Cond.before w9 ([.ref qg, .int v]).toArray s = true := fun w9 h => hts w9 (List.mem_cons_of_mem _ h)
  have hown : s.vm.findClass R_Sc = some m.cls := findClass_of_methodNamed B.named
  have hlocks := B.notSynchronized
  subst hsz
  have hD := hD0.self (sz := s.heap.size)
  generalize hAe : va_A [(qg, k_Sc g)] s.heap.size = A at hD ⊢
  have hA : ∀ q : Nat, s.heap.size ≤ q → A q := fun q h => by rw [← hAe]; exact Or.inr h
  have hS : va_S A s.heap s.heap [] := va_S.rf
  have hP : va_P D vwCl [(qg, k_Sc g)] s.heap := hP
  have hl := lv_entry ([.ref qg, .int v]) (n := 2) (Nat.le_of_ble_eq_true rfl)
  rw [lg_entry_eq]
  generalize (lg_sl ([.ref qg, .int v]) ++ List.replicate (2 - (lg_sl ([.ref qg, .int v])).length) Slot.unset).toArray = ls at hl ⊢
  have hl : lv_has ls 2 [(0, .ref qg), (1, .int v)] := hl
  refine lv_iload_n hx hb d_Sc_isFlat_0 rfl (lv_at hl 1 rfl) ?_
  refine va_mabs hx hb (hml.trans hl.1.symm) hown (hu _ hw_332) (hu _ hw_333) (hu _ hw_33) (hu _ hw_334) (Nat.le_of_ble_eq_true rfl) (Nat.le_of_ble_eq_true rfl) (Nat.le_of_ble_eq_true rfl) (Nat.le_of_ble_eq_true rfl) d_Sc_isFlat_1 ?_
  refine W.eq (g2 := F0 m 4 ls [.int (jabs v)]) rfl ?_
  refine lv_aload_n hx hb d_Sc_isFlat_4 rfl (lv_at hl 0 rfl) ?_
  refine va_get (D := D) (ci := 1) (v := .int (g 1)) (C := R_Sc) (T := T_Sc) (N := 8) hx hb hu in_Sc hown hK hP 0 rfl rfl 1 (by decide) (hu _ hw_82) (fun _ h9 => h9) rfl d_Sc_isFlat_5 ?_
  refine lv_icmp_gt (tgt := 15) hx hb d_Sc_isFlat_8 (by decide) (fun c_1 => ?_) (fun c_1 => ?_)
  · refine lv_iconst (v := 0) hx hb d_Sc_isFlat_15 (by decide) ?_
    have hP9 : va_P D vwCl ([(qg, k_Sc g)]) s.heap := hP.sub [0] rfl
    have hD9 : va_D A ([(qg, k_Sc g)]) := hD.sub [0] (by decide) rfl
    exact W.zret (v := 0) hx hb hr rfl (fun t ht hW => ⟨⟨0, (), rfl, by rw [f_isFlat, if_pos c_1], by rw [ht]; exact hP9, va_K.moved hW.alike (hK.sub [] rfl), hD9⟩, hS.F ht⟩) hS.2.2 d_Sc_isFlat_16
  · refine lv_iconst (v := 1) hx hb d_Sc_isFlat_11 (by decide) ?_
    refine lv_goto (tgt := 16) hx hb d_Sc_isFlat_12 (by decide) ?_
    have hP9 : va_P D vwCl ([(qg, k_Sc g)]) s.heap := hP.sub [0] rfl
    have hD9 : va_D A ([(qg, k_Sc g)]) := hD.sub [0] (by decide) rfl
    exact W.zret (v := 1) hx hb hr rfl (fun t ht hW => ⟨⟨1, (), rfl, by rw [f_isFlat, if_neg c_1], by rw [ht]; exact hP9, va_K.moved hW.alike (hK.sub [] rfl), hD9⟩, hS.F ht⟩) hS.2.2 d_Sc_isFlat_16
def f_steepness (g : Nat → Int32) (v : Int32) : Int32 :=
  if (jabs v) < (g 6) then
    if (jabs v) < (g 5) then
      if (jabs v) < (g 4) then
        if (jabs v) ≤ (g 1) then
          if 0 ≤ v then 0
          else -0
        else
          if 0 ≤ v then 1
          else -1
      else
        if 0 ≤ v then 2
        else -2
    else
      if 0 ≤ v then 3
      else -3
  else
    if 0 ≤ v then 4
    else -4
set_option maxHeartbeats 4000000 in
set_option maxRecDepth 100000 in
theorem c_steepness (l : Launch) (D : va_G) (sa : Nat → Nat) (sz : Nat) (qg : Nat) (g : Nat → Int32) (v : Int32)  : Met l y_Sc_steepness w_Sc_steepness ({ frames := 1, cells := 0, slots := 0, locals := 13 }) (va_Pc [.ref qg, .int v] (vq_pre D sa [(qg, k_Sc g)] [] sz)) (va_Qi (fun (r0 : Int32) (u : Unit) => f_steepness g v = r0) (vq_B D (va_A [(qg, k_Sc g)] sz) [] (fun (u : Unit) => [(qg, k_Sc g)])) (va_A [(qg, k_Sc g)] sz)) 0 0 (va_A [(qg, k_Sc g)] sz) := by
  refine Met.ofW (cc := b_Sc_steepness) (maxL := 4) (ret := (some .int)) (by decide) rfl ?_
  intro p e s m args below meth c s₁ B hml hv
  obtain ⟨rfl, hsz, hP, hK, hD0, hE⟩ := hv
  have hx := B.exec
  have hb := B.bytes
  have hr := B.returns
  have hts := atoms_spec (ws := w_Sc_steepness) B.pre
  have hu : ∀ w9 ∈ vU, Cond.before w9 ([.ref qg, .int v]).toArray s = true := fun w9 h => hts w9 (List.mem_cons_of_mem _ h)
  have hown : s.vm.findClass R_Sc = some m.cls := findClass_of_methodNamed B.named
  have hlocks := B.notSynchronized
  subst hsz
  have hD := hD0.self (sz := s.heap.size)
  generalize hAe : va_A [(qg, k_Sc g)] s.heap.size = A at hD ⊢
  have hA : ∀ q : Nat, s.heap.size ≤ q → A q := fun q h => by rw [← hAe]; exact Or.inr h
  have hS : va_S A s.heap s.heap [] := va_S.rf
  have hP : va_P D vwCl [(qg, k_Sc g)] s.heap := hP
  have hl := lv_entry ([.ref qg, .int v]) (n := 4) (Nat.le_of_ble_eq_true rfl)
  rw [lg_entry_eq]
  generalize (lg_sl ([.ref qg, .int v]) ++ List.replicate (4 - (lg_sl ([.ref qg, .int v])).length) Slot.unset).toArray = ls at hl ⊢
  have hl : lv_has ls 4 [(0, .ref qg), (1, .int v)] := hl
  refine lv_iload_n hx hb d_Sc_steepness_0 rfl (lv_at hl 1 rfl) ?_
  refine va_mabs hx hb (hml.trans hl.1.symm) hown (hu _ hw_332) (hu _ hw_333) (hu _ hw_33) (hu _ hw_334) (Nat.le_of_ble_eq_true rfl) (Nat.le_of_ble_eq_true rfl) (Nat.le_of_ble_eq_true rfl) (Nat.le_of_ble_eq_true rfl) d_Sc_steepness_1 ?_
  refine W.eq (g2 := F0 m 4 ls [.int (jabs v)]) rfl ?_
  refine lv_istore_n (lv' := [(2, .int (jabs v)), (0, .ref qg), (1, .int v)]) hx hb d_Sc_steepness_4 rfl hl (by decide) rfl (fun ls hl => ?_)
  refine lv_iload_n hx hb d_Sc_steepness_5 rfl (lv_at hl 0 rfl) ?_
  refine lv_aload_n hx hb d_Sc_steepness_6 rfl (lv_at hl 1 rfl) ?_
  refine va_get (D := D) (ci := 1) (v := .int (g 6)) (C := R_Sc) (T := T_Sc) (N := 8) hx hb hu in_Sc hown hK hP 0 rfl rfl 6 (by decide) (hu _ hw_96) (fun _ h9 => h9) rfl d_Sc_steepness_7 ?_
  refine lv_icmp_lt (tgt := 17) hx hb d_Sc_steepness_10 (by decide) (fun c_1 => ?_) (fun c_1 => ?_)
  · refine lv_iload_n hx hb d_Sc_steepness_17 rfl (lv_at hl 0 rfl) ?_
    refine lv_aload_n hx hb d_Sc_steepness_18 rfl (lv_at hl 1 rfl) ?_
    refine va_get (D := D) (ci := 1) (v := .int (g 5)) (C := R_Sc) (T := T_Sc) (N := 8) hx hb hu in_Sc hown hK hP 0 rfl rfl 5 (by decide) (hu _ hw_94) (fun _ h9 => h9) rfl d_Sc_steepness_19 ?_
    refine lv_icmp_lt (tgt := 29) hx hb d_Sc_steepness_22 (by decide) (fun c_2 => ?_) (fun c_2 => ?_)
    · refine lv_iload_n hx hb d_Sc_steepness_29 rfl (lv_at hl 0 rfl) ?_
      refine lv_aload_n hx hb d_Sc_steepness_30 rfl (lv_at hl 1 rfl) ?_
      refine va_get (D := D) (ci := 1) (v := .int (g 4)) (C := R_Sc) (T := T_Sc) (N := 8) hx hb hu in_Sc hown hK hP 0 rfl rfl 4 (by decide) (hu _ hw_92) (fun _ h9 => h9) rfl d_Sc_steepness_31 ?_
      refine lv_icmp_lt (tgt := 41) hx hb d_Sc_steepness_34 (by decide) (fun c_3 => ?_) (fun c_3 => ?_)
      · refine lv_iload_n hx hb d_Sc_steepness_41 rfl (lv_at hl 0 rfl) ?_
        refine lv_aload_n hx hb d_Sc_steepness_42 rfl (lv_at hl 1 rfl) ?_
        refine va_get (D := D) (ci := 1) (v := .int (g 1)) (C := R_Sc) (T := T_Sc) (N := 8) hx hb hu in_Sc hown hK hP 0 rfl rfl 1 (by decide) (hu _ hw_82) (fun _ h9 => h9) rfl d_Sc_steepness_43 ?_
        refine lv_icmp_le (tgt := 53) hx hb d_Sc_steepness_46 (by decide) (fun c_4 => ?_) (fun c_4 => ?_)
        · refine lv_iconst (v := 0) hx hb d_Sc_steepness_53 (by decide) ?_
          refine lv_istore_n (lv' := [(3, .int 0), (2, .int (jabs v)), (0, .ref qg), (1, .int v)]) hx hb d_Sc_steepness_54 rfl hl (by decide) rfl (fun ls hl => ?_)
          refine lv_iload_n hx hb d_Sc_steepness_55 rfl (lv_at hl 3 rfl) ?_
          refine lv_if_ge (tgt := 64) hx hb d_Sc_steepness_56 (by decide) (fun c_5 => ?_) (fun c_5 => ?_)
          · refine lv_iload_n hx hb d_Sc_steepness_64 rfl (lv_at hl 0 rfl) ?_
            have hP9 : va_P D vwCl ([(qg, k_Sc g)]) s.heap := hP.sub [0] rfl
            have hD9 : va_D A ([(qg, k_Sc g)]) := hD.sub [0] (by decide) rfl
            exact W.iret (v := 0) hx hb hr (fun t ht hW => ⟨⟨0, (), rfl, by rw [f_steepness, if_pos c_1, if_pos c_2, if_pos c_3, if_pos c_4, if_pos c_5], by rw [ht]; exact hP9, va_K.moved hW.alike (hK.sub [] rfl), hD9⟩, hS.F ht⟩) hS.2.2 d_Sc_steepness_65
          · refine lv_iload_n hx hb d_Sc_steepness_59 rfl (lv_at hl 0 rfl) ?_
            refine lv_ineg hx hb d_Sc_steepness_60 ?_
            refine lv_goto (tgt := 65) hx hb d_Sc_steepness_61 (by decide) ?_
            have hP9 : va_P D vwCl ([(qg, k_Sc g)]) s.heap := hP.sub [0] rfl
            have hD9 : va_D A ([(qg, k_Sc g)]) := hD.sub [0] (by decide) rfl
            exact W.iret (v := -0) hx hb hr (fun t ht hW => ⟨⟨-0, (), rfl, by rw [f_steepness, if_pos c_1, if_pos c_2, if_pos c_3, if_pos c_4, if_neg c_5], by rw [ht]; exact hP9, va_K.moved hW.alike (hK.sub [] rfl), hD9⟩, hS.F ht⟩) hS.2.2 d_Sc_steepness_65
        · refine lv_iconst (v := 1) hx hb d_Sc_steepness_49 (by decide) ?_
          refine lv_goto (tgt := 54) hx hb d_Sc_steepness_50 (by decide) ?_
          refine lv_istore_n (lv' := [(3, .int 1), (2, .int (jabs v)), (0, .ref qg), (1, .int v)]) hx hb d_Sc_steepness_54 rfl hl (by decide) rfl (fun ls hl => ?_)
          refine lv_iload_n hx hb d_Sc_steepness_55 rfl (lv_at hl 3 rfl) ?_
          refine lv_if_ge (tgt := 64) hx hb d_Sc_steepness_56 (by decide) (fun c_6 => ?_) (fun c_6 => ?_)
          · refine lv_iload_n hx hb d_Sc_steepness_64 rfl (lv_at hl 0 rfl) ?_
            have hP9 : va_P D vwCl ([(qg, k_Sc g)]) s.heap := hP.sub [0] rfl
            have hD9 : va_D A ([(qg, k_Sc g)]) := hD.sub [0] (by decide) rfl
            exact W.iret (v := 1) hx hb hr (fun t ht hW => ⟨⟨1, (), rfl, by rw [f_steepness, if_pos c_1, if_pos c_2, if_pos c_3, if_neg c_4, if_pos c_6], by rw [ht]; exact hP9, va_K.moved hW.alike (hK.sub [] rfl), hD9⟩, hS.F ht⟩) hS.2.2 d_Sc_steepness_65
          · refine lv_iload_n hx hb d_Sc_steepness_59 rfl (lv_at hl 0 rfl) ?_
            refine lv_ineg hx hb d_Sc_steepness_60 ?_
            refine lv_goto (tgt := 65) hx hb d_Sc_steepness_61 (by decide) ?_
            have hP9 : va_P D vwCl ([(qg, k_Sc g)]) s.heap := hP.sub [0] rfl
            have hD9 : va_D A ([(qg, k_Sc g)]) := hD.sub [0] (by decide) rfl
            exact W.iret (v := -1) hx hb hr (fun t ht hW => ⟨⟨-1, (), rfl, by rw [f_steepness, if_pos c_1, if_pos c_2, if_pos c_3, if_neg c_4, if_neg c_6], by rw [ht]; exact hP9, va_K.moved hW.alike (hK.sub [] rfl), hD9⟩, hS.F ht⟩) hS.2.2 d_Sc_steepness_65
      · refine lv_iconst (v := 2) hx hb d_Sc_steepness_37 (by decide) ?_
        refine lv_goto (tgt := 54) hx hb d_Sc_steepness_38 (by decide) ?_
        refine lv_istore_n (lv' := [(3, .int 2), (2, .int (jabs v)), (0, .ref qg), (1, .int v)]) hx hb d_Sc_steepness_54 rfl hl (by decide) rfl (fun ls hl => ?_)
        refine lv_iload_n hx hb d_Sc_steepness_55 rfl (lv_at hl 3 rfl) ?_
        refine lv_if_ge (tgt := 64) hx hb d_Sc_steepness_56 (by decide) (fun c_7 => ?_) (fun c_7 => ?_)
        · refine lv_iload_n hx hb d_Sc_steepness_64 rfl (lv_at hl 0 rfl) ?_
          have hP9 : va_P D vwCl ([(qg, k_Sc g)]) s.heap := hP.sub [0] rfl
          have hD9 : va_D A ([(qg, k_Sc g)]) := hD.sub [0] (by decide) rfl
          exact W.iret (v := 2) hx hb hr (fun t ht hW => ⟨⟨2, (), rfl, by rw [f_steepness, if_pos c_1, if_pos c_2, if_neg c_3, if_pos c_7], by rw [ht]; exact hP9, va_K.moved hW.alike (hK.sub [] rfl), hD9⟩, hS.F ht⟩) hS.2.2 d_Sc_steepness_65
        · refine lv_iload_n hx hb d_Sc_steepness_59 rfl (lv_at hl 0 rfl) ?_
          refine lv_ineg hx hb d_Sc_steepness_60 ?_
          refine lv_goto (tgt := 65) hx hb d_Sc_steepness_61 (by decide) ?_
          have hP9 : va_P D vwCl ([(qg, k_Sc g)]) s.heap := hP.sub [0] rfl
          have hD9 : va_D A ([(qg, k_Sc g)]) := hD.sub [0] (by decide) rfl
          exact W.iret (v := -2) hx hb hr (fun t ht hW => ⟨⟨-2, (), rfl, by rw [f_steepness, if_pos c_1, if_pos c_2, if_neg c_3, if_neg c_7], by rw [ht]; exact hP9, va_K.moved hW.alike (hK.sub [] rfl), hD9⟩, hS.F ht⟩) hS.2.2 d_Sc_steepness_65
    · refine lv_iconst (v := 3) hx hb d_Sc_steepness_25 (by decide) ?_
      refine lv_goto (tgt := 54) hx hb d_Sc_steepness_26 (by decide) ?_
      refine lv_istore_n (lv' := [(3, .int 3), (2, .int (jabs v)), (0, .ref qg), (1, .int v)]) hx hb d_Sc_steepness_54 rfl hl (by decide) rfl (fun ls hl => ?_)
      refine lv_iload_n hx hb d_Sc_steepness_55 rfl (lv_at hl 3 rfl) ?_
      refine lv_if_ge (tgt := 64) hx hb d_Sc_steepness_56 (by decide) (fun c_8 => ?_) (fun c_8 => ?_)
      · refine lv_iload_n hx hb d_Sc_steepness_64 rfl (lv_at hl 0 rfl) ?_
        have hP9 : va_P D vwCl ([(qg, k_Sc g)]) s.heap := hP.sub [0] rfl
        have hD9 : va_D A ([(qg, k_Sc g)]) := hD.sub [0] (by decide) rfl
        exact W.iret (v := 3) hx hb hr (fun t ht hW => ⟨⟨3, (), rfl, by rw [f_steepness, if_pos c_1, if_neg c_2, if_pos c_8], by rw [ht]; exact hP9, va_K.moved hW.alike (hK.sub [] rfl), hD9⟩, hS.F ht⟩) hS.2.2 d_Sc_steepness_65
      · refine lv_iload_n hx hb d_Sc_steepness_59 rfl (lv_at hl 0 rfl) ?_
        refine lv_ineg hx hb d_Sc_steepness_60 ?_
        refine lv_goto (tgt := 65) hx hb d_Sc_steepness_61 (by decide) ?_
        have hP9 : va_P D vwCl ([(qg, k_Sc g)]) s.heap := hP.sub [0] rfl
        have hD9 : va_D A ([(qg, k_Sc g)]) := hD.sub [0] (by decide) rfl
        exact W.iret (v := -3) hx hb hr (fun t ht hW => ⟨⟨-3, (), rfl, by rw [f_steepness, if_pos c_1, if_neg c_2, if_neg c_8], by rw [ht]; exact hP9, va_K.moved hW.alike (hK.sub [] rfl), hD9⟩, hS.F ht⟩) hS.2.2 d_Sc_steepness_65
  · refine lv_iconst (v := 4) hx hb d_Sc_steepness_13 (by decide) ?_
    refine lv_goto (tgt := 54) hx hb d_Sc_steepness_14 (by decide) ?_
    refine lv_istore_n (lv' := [(3, .int 4), (2, .int (jabs v)), (0, .ref qg), (1, .int v)]) hx hb d_Sc_steepness_54 rfl hl (by decide) rfl (fun ls hl => ?_)
    refine lv_iload_n hx hb d_Sc_steepness_55 rfl (lv_at hl 3 rfl) ?_
    refine lv_if_ge (tgt := 64) hx hb d_Sc_steepness_56 (by decide) (fun c_9 => ?_) (fun c_9 => ?_)
    · refine lv_iload_n hx hb d_Sc_steepness_64 rfl (lv_at hl 0 rfl) ?_
      have hP9 : va_P D vwCl ([(qg, k_Sc g)]) s.heap := hP.sub [0] rfl
      have hD9 : va_D A ([(qg, k_Sc g)]) := hD.sub [0] (by decide) rfl
      exact W.iret (v := 4) hx hb hr (fun t ht hW => ⟨⟨4, (), rfl, by rw [f_steepness, if_neg c_1, if_pos c_9], by rw [ht]; exact hP9, va_K.moved hW.alike (hK.sub [] rfl), hD9⟩, hS.F ht⟩) hS.2.2 d_Sc_steepness_65
    · refine lv_iload_n hx hb d_Sc_steepness_59 rfl (lv_at hl 0 rfl) ?_
      refine lv_ineg hx hb d_Sc_steepness_60 ?_
      refine lv_goto (tgt := 65) hx hb d_Sc_steepness_61 (by decide) ?_
      have hP9 : va_P D vwCl ([(qg, k_Sc g)]) s.heap := hP.sub [0] rfl
      have hD9 : va_D A ([(qg, k_Sc g)]) := hD.sub [0] (by decide) rfl
      exact W.iret (v := -4) hx hb hr (fun t ht hW => ⟨⟨-4, (), rfl, by rw [f_steepness, if_neg c_1, if_neg c_9], by rw [ht]; exact hP9, va_K.moved hW.alike (hK.sub [] rfl), hD9⟩, hS.F ht⟩) hS.2.2 d_Sc_steepness_65
def f_inSteps_3 (g : Nat → Int32) (v : Int32) (r_2 : Int32) : Int32 := r_2
def f_inSteps_5 (g : Nat → Int32) (v : Int32) (r_4 : Int32) : Int32 := -r_4
def f_inSteps (g : Nat → Int32) (v : Int32) : Int32 :=
  if 0 ≤ v then f_inSteps_3 g v (f_divided (v + (g 1)) (g 2))
  else f_inSteps_5 g v (f_divided ((g 1) - v) (g 2))
set_option maxHeartbeats 4000000 in
set_option maxRecDepth 100000 in
theorem c_inSteps (l : Launch) (D : va_G) (sa : Nat → Nat) (sz : Nat) (qg : Nat) (g : Nat → Int32) (v : Int32)  : Met l y_Sc_inSteps w_Sc_inSteps ({ frames := 1, cells := 0, slots := 0, locals := 21 }) (va_Pc [.ref qg, .int v] (vq_pre D sa [(qg, k_Sc g)] [] sz)) (va_Qi (fun (r0 : Int32) (u : Unit) => f_inSteps g v = r0) (vq_B D (va_A [(qg, k_Sc g)] sz) [] (fun (u : Unit) => [(qg, k_Sc g)])) (va_A [(qg, k_Sc g)] sz)) 0 0 (va_A [(qg, k_Sc g)] sz) := by
  refine Met.ofW (cc := b_Sc_inSteps) (maxL := 2) (ret := (some .int)) (by decide) rfl ?_
  intro p e s m args below meth c s₁ B hml hv
  obtain ⟨rfl, hsz, hP, hK, hD0, hE⟩ := hv
  have hx := B.exec
  have hb := B.bytes
  have hr := B.returns
  have hts := atoms_spec (ws := w_Sc_inSteps) B.pre
  have hu : ∀ w9 ∈ vU, Cond.before w9 ([.ref qg, .int v]).toArray s = true := fun w9 h => hts w9 (List.mem_cons_of_mem _ h)
  have hown : s.vm.findClass R_Sc = some m.cls := findClass_of_methodNamed B.named
  have hlocks := B.notSynchronized
  subst hsz
  have hD := hD0.self (sz := s.heap.size)
  generalize hAe : va_A [(qg, k_Sc g)] s.heap.size = A at hD ⊢
  have hA : ∀ q : Nat, s.heap.size ≤ q → A q := fun q h => by rw [← hAe]; exact Or.inr h
  have hS : va_S A s.heap s.heap [] := va_S.rf
  have hP : va_P D vwCl [(qg, k_Sc g)] s.heap := hP
  have hl := lv_entry ([.ref qg, .int v]) (n := 2) (Nat.le_of_ble_eq_true rfl)
  rw [lg_entry_eq]
  generalize (lg_sl ([.ref qg, .int v]) ++ List.replicate (2 - (lg_sl ([.ref qg, .int v])).length) Slot.unset).toArray = ls at hl ⊢
  have hl : lv_has ls 2 [(0, .ref qg), (1, .int v)] := hl
  refine lv_iload_n hx hb d_Sc_inSteps_0 rfl (lv_at hl 1 rfl) ?_
  refine lv_if_ge (tgt := 21) hx hb d_Sc_inSteps_1 (by decide) (fun c_1 => ?_) (fun c_1 => ?_)
  · refine lv_iload_n hx hb d_Sc_inSteps_21 rfl (lv_at hl 1 rfl) ?_
    refine lv_aload_n hx hb d_Sc_inSteps_22 rfl (lv_at hl 0 rfl) ?_
    refine va_get (D := D) (ci := 1) (v := .int (g 1)) (C := R_Sc) (T := T_Sc) (N := 8) hx hb hu in_Sc hown hK hP 0 rfl rfl 1 (by decide) (hu _ hw_82) (fun _ h9 => h9) rfl d_Sc_inSteps_23 ?_
    refine lv_iadd hx hb d_Sc_inSteps_26 ?_
    refine lv_aload_n hx hb d_Sc_inSteps_27 rfl (lv_at hl 0 rfl) ?_
    refine va_get (D := D) (ci := 1) (v := .int (g 2)) (C := R_Sc) (T := T_Sc) (N := 8) hx hb hu in_Sc hown hK hP 0 rfl rfl 2 (by decide) (hu _ hw_85) (fun _ h9 => h9) rfl d_Sc_inSteps_28 ?_
    refine vq_i (wr := [(qg, k_Sc g)]) (va_runSN (As := [.int (v + (g 1)), .int (g 2)]) (rest := []) ⟨hx, hb, hml, hown, hts⟩ (c_divided l D sa s.heap.size (v + (g 1)) (g 2)) ⟨va_cnB 2 hts (vg_0 (fun w h => List.mem_cons_of_mem _ h) hw_72) rfl rfl rfl (hE.1 (.methodLinkNest R_Sc 31 y_Lp_divided R_Lp) (by decide +kernel)) (hu _ hw_32) (by decide +kernel) ⟨Nat.le_of_ble_eq_true rfl, Nat.le_of_ble_eq_true rfl⟩, (hu _ hw_71), trivial⟩ (vq_pS hE hK hP hD [] [] rfl (by decide) rfl) rfl rfl hl.1 rfl (lv_room (Nat.le_of_ble_eq_true rfl)) d_Sc_inSteps_31 ⟨Nat.le_of_ble_eq_true rfl, Nat.le_of_ble_eq_true rfl⟩) hP hD hS hA [] [0] rfl rfl (by decide) (by decide) (fun r_2 u_2 H locs e_2 hP hD hS => ?_)
    have hP : va_P D vwCl [(qg, k_Sc g)] H := hP
    have hD : va_D A [(qg, k_Sc g)] := hD
    have hP9 : va_P D vwCl ([(qg, k_Sc g)]) H := hP.sub [0] rfl
    have hD9 : va_D A ([(qg, k_Sc g)]) := hD.sub [0] (by decide) rfl
    exact W.iret (v := r_2) hx hb hr (fun t ht hW => ⟨⟨r_2, (), rfl, by rw [f_inSteps, if_pos c_1, e_2, f_inSteps_3], by rw [ht]; exact hP9, va_K.moved hW.alike (hK.sub [] rfl), hD9⟩, hS.F ht⟩) hS.2.2 d_Sc_inSteps_34
  · refine lv_aload_n hx hb d_Sc_inSteps_4 rfl (lv_at hl 0 rfl) ?_
    refine va_get (D := D) (ci := 1) (v := .int (g 1)) (C := R_Sc) (T := T_Sc) (N := 8) hx hb hu in_Sc hown hK hP 0 rfl rfl 1 (by decide) (hu _ hw_82) (fun _ h9 => h9) rfl d_Sc_inSteps_5 ?_
    refine lv_iload_n hx hb d_Sc_inSteps_8 rfl (lv_at hl 1 rfl) ?_
    refine lv_isub hx hb d_Sc_inSteps_9 ?_
    refine lv_aload_n hx hb d_Sc_inSteps_10 rfl (lv_at hl 0 rfl) ?_
    refine va_get (D := D) (ci := 1) (v := .int (g 2)) (C := R_Sc) (T := T_Sc) (N := 8) hx hb hu in_Sc hown hK hP 0 rfl rfl 2 (by decide) (hu _ hw_85) (fun _ h9 => h9) rfl d_Sc_inSteps_11 ?_
    refine vq_i (wr := [(qg, k_Sc g)]) (va_runSN (As := [.int ((g 1) - v), .int (g 2)]) (rest := []) ⟨hx, hb, hml, hown, hts⟩ (c_divided l D sa s.heap.size ((g 1) - v) (g 2)) ⟨va_cnB 2 hts (vg_0 (fun w h => List.mem_cons_of_mem _ h) hw_72) rfl rfl rfl (hE.1 (.methodLinkNest R_Sc 31 y_Lp_divided R_Lp) (by decide +kernel)) (hu _ hw_32) (by decide +kernel) ⟨Nat.le_of_ble_eq_true rfl, Nat.le_of_ble_eq_true rfl⟩, (hu _ hw_71), trivial⟩ (vq_pS hE hK hP hD [] [] rfl (by decide) rfl) rfl rfl hl.1 rfl (lv_room (Nat.le_of_ble_eq_true rfl)) d_Sc_inSteps_14 ⟨Nat.le_of_ble_eq_true rfl, Nat.le_of_ble_eq_true rfl⟩) hP hD hS hA [] [0] rfl rfl (by decide) (by decide) (fun r_4 u_4 H locs e_4 hP hD hS => ?_)
    have hP : va_P D vwCl [(qg, k_Sc g)] H := hP
    have hD : va_D A [(qg, k_Sc g)] := hD
    refine lv_ineg hx hb d_Sc_inSteps_17 ?_
    refine lv_goto (tgt := 34) hx hb d_Sc_inSteps_18 (by decide) ?_
    have hP9 : va_P D vwCl ([(qg, k_Sc g)]) H := hP.sub [0] rfl
    have hD9 : va_D A ([(qg, k_Sc g)]) := hD.sub [0] (by decide) rfl
    exact W.iret (v := -r_4) hx hb hr (fun t ht hW => ⟨⟨-r_4, (), rfl, by rw [f_inSteps, if_neg c_1, e_4, f_inSteps_5], by rw [ht]; exact hP9, va_K.moved hW.alike (hK.sub [] rfl), hD9⟩, hS.F ht⟩) hS.2.2 d_Sc_inSteps_34
def f_inRange (g : Nat → Int32) (v : Int32) : Int32 :=
  if 0 ≤ v then
    if v < (((g 3) + 1) / 2) then v
    else v - (g 3)
  else
    if (v + (g 3)) < (((g 3) + 1) / 2) then v + (g 3)
    else (v + (g 3)) - (g 3)
set_option maxHeartbeats 4000000 in
set_option maxRecDepth 100000 in
theorem c_inRange (l : Launch) (D : va_G) (sa : Nat → Nat) (sz : Nat) (qg : Nat) (g : Nat → Int32) (v : Int32)  : Met l y_Sc_inRange w_Sc_inRange ({ frames := 0, cells := 0, slots := 0, locals := 0 }) (va_Pc [.ref qg, .int v] (vq_pre D sa [(qg, k_Sc g)] [] sz)) (va_Qi (fun (r0 : Int32) (u : Unit) => f_inRange g v = r0) (vq_B D (va_A [(qg, k_Sc g)] sz) [] (fun (u : Unit) => [(qg, k_Sc g)])) (va_A [(qg, k_Sc g)] sz)) 0 0 (va_A [(qg, k_Sc g)] sz) := by
  refine Met.ofW (cc := b_Sc_inRange) (maxL := 3) (ret := (some .int)) (by decide) rfl ?_
  intro p e s m args below meth c s₁ B hml hv
  obtain ⟨rfl, hsz, hP, hK, hD0, hE⟩ := hv
  have hx := B.exec
  have hb := B.bytes
  have hr := B.returns
  have hts := atoms_spec (ws := w_Sc_inRange) B.pre
  have hu : ∀ w9 ∈ vU, Cond.before w9 ([.ref qg, .int v]).toArray s = true := fun w9 h => hts w9 (List.mem_cons_of_mem _ h)
  have hown : s.vm.findClass R_Sc = some m.cls := findClass_of_methodNamed B.named
  have hlocks := B.notSynchronized
  subst hsz
  have hD := hD0.self (sz := s.heap.size)
  generalize hAe : va_A [(qg, k_Sc g)] s.heap.size = A at hD ⊢
  have hA : ∀ q : Nat, s.heap.size ≤ q → A q := fun q h => by rw [← hAe]; exact Or.inr h
  have hS : va_S A s.heap s.heap [] := va_S.rf
  have hP : va_P D vwCl [(qg, k_Sc g)] s.heap := hP
  have hl := lv_entry ([.ref qg, .int v]) (n := 3) (Nat.le_of_ble_eq_true rfl)
  rw [lg_entry_eq]
  generalize (lg_sl ([.ref qg, .int v]) ++ List.replicate (3 - (lg_sl ([.ref qg, .int v])).length) Slot.unset).toArray = ls at hl ⊢
  have hl : lv_has ls 3 [(0, .ref qg), (1, .int v)] := hl
  refine lv_iload_n hx hb d_Sc_inRange_0 rfl (lv_at hl 1 rfl) ?_
  refine lv_if_ge (tgt := 13) hx hb d_Sc_inRange_1 (by decide) (fun c_1 => ?_) (fun c_1 => ?_)
  · refine lv_iload_n hx hb d_Sc_inRange_13 rfl (lv_at hl 1 rfl) ?_
    refine lv_istore_n (lv' := [(2, .int v), (0, .ref qg), (1, .int v)]) hx hb d_Sc_inRange_14 rfl hl (by decide) rfl (fun ls hl => ?_)
    refine lv_iload_n hx hb d_Sc_inRange_15 rfl (lv_at hl 0 rfl) ?_
    refine lv_aload_n hx hb d_Sc_inRange_16 rfl (lv_at hl 1 rfl) ?_
    refine va_get (D := D) (ci := 1) (v := .int (g 3)) (C := R_Sc) (T := T_Sc) (N := 8) hx hb hu in_Sc hown hK hP 0 rfl rfl 3 (by decide) (hu _ hw_89) (fun _ h9 => h9) rfl d_Sc_inRange_17 ?_
    refine lv_iconst (v := 1) hx hb d_Sc_inRange_20 (by decide) ?_
    refine lv_iadd hx hb d_Sc_inRange_21 ?_
    refine lv_iconst (v := 2) hx hb d_Sc_inRange_22 (by decide) ?_
    refine lv_idiv hx hb d_Sc_inRange_23 (by decide) ?_
    refine lv_icmp_lt (tgt := 36) hx hb d_Sc_inRange_24 (by decide) (fun c_2 => ?_) (fun c_2 => ?_)
    · refine lv_iload_n hx hb d_Sc_inRange_36 rfl (lv_at hl 0 rfl) ?_
      have hP9 : va_P D vwCl ([(qg, k_Sc g)]) s.heap := hP.sub [0] rfl
      have hD9 : va_D A ([(qg, k_Sc g)]) := hD.sub [0] (by decide) rfl
      exact W.iret (v := v) hx hb hr (fun t ht hW => ⟨⟨v, (), rfl, by rw [f_inRange, if_pos c_1, if_pos c_2], by rw [ht]; exact hP9, va_K.moved hW.alike (hK.sub [] rfl), hD9⟩, hS.F ht⟩) hS.2.2 d_Sc_inRange_37
    · refine lv_iload_n hx hb d_Sc_inRange_27 rfl (lv_at hl 0 rfl) ?_
      refine lv_aload_n hx hb d_Sc_inRange_28 rfl (lv_at hl 1 rfl) ?_
      refine va_get (D := D) (ci := 1) (v := .int (g 3)) (C := R_Sc) (T := T_Sc) (N := 8) hx hb hu in_Sc hown hK hP 0 rfl rfl 3 (by decide) (hu _ hw_89) (fun _ h9 => h9) rfl d_Sc_inRange_29 ?_
      refine lv_isub hx hb d_Sc_inRange_32 ?_
      refine lv_goto (tgt := 37) hx hb d_Sc_inRange_33 (by decide) ?_
      have hP9 : va_P D vwCl ([(qg, k_Sc g)]) s.heap := hP.sub [0] rfl
      have hD9 : va_D A ([(qg, k_Sc g)]) := hD.sub [0] (by decide) rfl
      exact W.iret (v := v - (g 3)) hx hb hr (fun t ht hW => ⟨⟨v - (g 3), (), rfl, by rw [f_inRange, if_pos c_1, if_neg c_2], by rw [ht]; exact hP9, va_K.moved hW.alike (hK.sub [] rfl), hD9⟩, hS.F ht⟩) hS.2.2 d_Sc_inRange_37
  · refine lv_iload_n hx hb d_Sc_inRange_4 rfl (lv_at hl 1 rfl) ?_
    refine lv_aload_n hx hb d_Sc_inRange_5 rfl (lv_at hl 0 rfl) ?_
    refine va_get (D := D) (ci := 1) (v := .int (g 3)) (C := R_Sc) (T := T_Sc) (N := 8) hx hb hu in_Sc hown hK hP 0 rfl rfl 3 (by decide) (hu _ hw_89) (fun _ h9 => h9) rfl d_Sc_inRange_6 ?_
    refine lv_iadd hx hb d_Sc_inRange_9 ?_
    refine lv_goto (tgt := 14) hx hb d_Sc_inRange_10 (by decide) ?_
    refine lv_istore_n (lv' := [(2, .int (v + (g 3))), (0, .ref qg), (1, .int v)]) hx hb d_Sc_inRange_14 rfl hl (by decide) rfl (fun ls hl => ?_)
    refine lv_iload_n hx hb d_Sc_inRange_15 rfl (lv_at hl 0 rfl) ?_
    refine lv_aload_n hx hb d_Sc_inRange_16 rfl (lv_at hl 1 rfl) ?_
    refine va_get (D := D) (ci := 1) (v := .int (g 3)) (C := R_Sc) (T := T_Sc) (N := 8) hx hb hu in_Sc hown hK hP 0 rfl rfl 3 (by decide) (hu _ hw_89) (fun _ h9 => h9) rfl d_Sc_inRange_17 ?_
    refine lv_iconst (v := 1) hx hb d_Sc_inRange_20 (by decide) ?_
    refine lv_iadd hx hb d_Sc_inRange_21 ?_
    refine lv_iconst (v := 2) hx hb d_Sc_inRange_22 (by decide) ?_
    refine lv_idiv hx hb d_Sc_inRange_23 (by decide) ?_
    refine lv_icmp_lt (tgt := 36) hx hb d_Sc_inRange_24 (by decide) (fun c_3 => ?_) (fun c_3 => ?_)
    · refine lv_iload_n hx hb d_Sc_inRange_36 rfl (lv_at hl 0 rfl) ?_
      have hP9 : va_P D vwCl ([(qg, k_Sc g)]) s.heap := hP.sub [0] rfl
      have hD9 : va_D A ([(qg, k_Sc g)]) := hD.sub [0] (by decide) rfl
      exact W.iret (v := v + (g 3)) hx hb hr (fun t ht hW => ⟨⟨v + (g 3), (), rfl, by rw [f_inRange, if_neg c_1, if_pos c_3], by rw [ht]; exact hP9, va_K.moved hW.alike (hK.sub [] rfl), hD9⟩, hS.F ht⟩) hS.2.2 d_Sc_inRange_37
    · refine lv_iload_n hx hb d_Sc_inRange_27 rfl (lv_at hl 0 rfl) ?_
      refine lv_aload_n hx hb d_Sc_inRange_28 rfl (lv_at hl 1 rfl) ?_
      refine va_get (D := D) (ci := 1) (v := .int (g 3)) (C := R_Sc) (T := T_Sc) (N := 8) hx hb hu in_Sc hown hK hP 0 rfl rfl 3 (by decide) (hu _ hw_89) (fun _ h9 => h9) rfl d_Sc_inRange_29 ?_
      refine lv_isub hx hb d_Sc_inRange_32 ?_
      refine lv_goto (tgt := 37) hx hb d_Sc_inRange_33 (by decide) ?_
      have hP9 : va_P D vwCl ([(qg, k_Sc g)]) s.heap := hP.sub [0] rfl
      have hD9 : va_D A ([(qg, k_Sc g)]) := hD.sub [0] (by decide) rfl
      exact W.iret (v := (v + (g 3)) - (g 3)) hx hb hr (fun t ht hW => ⟨⟨(v + (g 3)) - (g 3), (), rfl, by rw [f_inRange, if_neg c_1, if_neg c_3], by rw [ht]; exact hP9, va_K.moved hW.alike (hK.sub [] rfl), hD9⟩, hS.F ht⟩) hS.2.2 d_Sc_inRange_37
def f_turnedOver (g : Nat → Int32) (v : Int32) : Int32 :=
  if v ≤ ((g 0) + (g 1)) then
    if (-(g 1)) ≤ v then v
    else v + ((g 3) * (g 2))
  else v - ((g 3) * (g 2))
set_option maxHeartbeats 4000000 in
set_option maxRecDepth 100000 in
theorem c_turnedOver (l : Launch) (D : va_G) (sa : Nat → Nat) (sz : Nat) (qg : Nat) (g : Nat → Int32) (v : Int32)  : Met l y_Sc_turnedOver w_Sc_turnedOver ({ frames := 0, cells := 0, slots := 0, locals := 0 }) (va_Pc [.ref qg, .int v] (vq_pre D sa [(qg, k_Sc g)] [] sz)) (va_Qi (fun (r0 : Int32) (u : Unit) => f_turnedOver g v = r0) (vq_B D (va_A [(qg, k_Sc g)] sz) [] (fun (u : Unit) => [(qg, k_Sc g)])) (va_A [(qg, k_Sc g)] sz)) 0 0 (va_A [(qg, k_Sc g)] sz) := by
  refine Met.ofW (cc := b_Sc_turnedOver) (maxL := 2) (ret := (some .int)) (by decide) rfl ?_
  intro p e s m args below meth c s₁ B hml hv
  obtain ⟨rfl, hsz, hP, hK, hD0, hE⟩ := hv
  have hx := B.exec
  have hb := B.bytes
  have hr := B.returns
  have hts := atoms_spec (ws := w_Sc_turnedOver) B.pre
  have hu : ∀ w9 ∈ vU, Cond.before w9 ([.ref qg, .int v]).toArray s = true := fun w9 h => hts w9 (List.mem_cons_of_mem _ h)
  have hown : s.vm.findClass R_Sc = some m.cls := findClass_of_methodNamed B.named
  have hlocks := B.notSynchronized
  subst hsz
  have hD := hD0.self (sz := s.heap.size)
  generalize hAe : va_A [(qg, k_Sc g)] s.heap.size = A at hD ⊢
  have hA : ∀ q : Nat, s.heap.size ≤ q → A q := fun q h => by rw [← hAe]; exact Or.inr h
  have hS : va_S A s.heap s.heap [] := va_S.rf
  have hP : va_P D vwCl [(qg, k_Sc g)] s.heap := hP
  have hl := lv_entry ([.ref qg, .int v]) (n := 2) (Nat.le_of_ble_eq_true rfl)
  rw [lg_entry_eq]
  generalize (lg_sl ([.ref qg, .int v]) ++ List.replicate (2 - (lg_sl ([.ref qg, .int v])).length) Slot.unset).toArray = ls at hl ⊢
  have hl : lv_has ls 2 [(0, .ref qg), (1, .int v)] := hl
  refine lv_iload_n hx hb d_Sc_turnedOver_0 rfl (lv_at hl 1 rfl) ?_
  refine lv_aload_n hx hb d_Sc_turnedOver_1 rfl (lv_at hl 0 rfl) ?_
  refine va_get (D := D) (ci := 1) (v := .int (g 0)) (C := R_Sc) (T := T_Sc) (N := 8) hx hb hu in_Sc hown hK hP 0 rfl rfl 0 (by decide) (hu _ hw_80) (fun _ h9 => h9) rfl d_Sc_turnedOver_2 ?_
  refine lv_aload_n hx hb d_Sc_turnedOver_5 rfl (lv_at hl 0 rfl) ?_
  refine va_get (D := D) (ci := 1) (v := .int (g 1)) (C := R_Sc) (T := T_Sc) (N := 8) hx hb hu in_Sc hown hK hP 0 rfl rfl 1 (by decide) (hu _ hw_82) (fun _ h9 => h9) rfl d_Sc_turnedOver_6 ?_
  refine lv_iadd hx hb d_Sc_turnedOver_9 ?_
  refine lv_icmp_le (tgt := 25) hx hb d_Sc_turnedOver_10 (by decide) (fun c_1 => ?_) (fun c_1 => ?_)
  · refine lv_iload_n hx hb d_Sc_turnedOver_25 rfl (lv_at hl 1 rfl) ?_
    refine lv_aload_n hx hb d_Sc_turnedOver_26 rfl (lv_at hl 0 rfl) ?_
    refine va_get (D := D) (ci := 1) (v := .int (g 1)) (C := R_Sc) (T := T_Sc) (N := 8) hx hb hu in_Sc hown hK hP 0 rfl rfl 1 (by decide) (hu _ hw_82) (fun _ h9 => h9) rfl d_Sc_turnedOver_27 ?_
    refine lv_ineg hx hb d_Sc_turnedOver_30 ?_
    refine lv_icmp_ge (tgt := 48) hx hb d_Sc_turnedOver_31 (by decide) (fun c_2 => ?_) (fun c_2 => ?_)
    · refine lv_iload_n hx hb d_Sc_turnedOver_48 rfl (lv_at hl 1 rfl) ?_
      have hP9 : va_P D vwCl ([(qg, k_Sc g)]) s.heap := hP.sub [0] rfl
      have hD9 : va_D A ([(qg, k_Sc g)]) := hD.sub [0] (by decide) rfl
      exact W.iret (v := v) hx hb hr (fun t ht hW => ⟨⟨v, (), rfl, by rw [f_turnedOver, if_pos c_1, if_pos c_2], by rw [ht]; exact hP9, va_K.moved hW.alike (hK.sub [] rfl), hD9⟩, hS.F ht⟩) hS.2.2 d_Sc_turnedOver_49
    · refine lv_iload_n hx hb d_Sc_turnedOver_34 rfl (lv_at hl 1 rfl) ?_
      refine lv_aload_n hx hb d_Sc_turnedOver_35 rfl (lv_at hl 0 rfl) ?_
      refine va_get (D := D) (ci := 1) (v := .int (g 3)) (C := R_Sc) (T := T_Sc) (N := 8) hx hb hu in_Sc hown hK hP 0 rfl rfl 3 (by decide) (hu _ hw_89) (fun _ h9 => h9) rfl d_Sc_turnedOver_36 ?_
      refine lv_aload_n hx hb d_Sc_turnedOver_39 rfl (lv_at hl 0 rfl) ?_
      refine va_get (D := D) (ci := 1) (v := .int (g 2)) (C := R_Sc) (T := T_Sc) (N := 8) hx hb hu in_Sc hown hK hP 0 rfl rfl 2 (by decide) (hu _ hw_85) (fun _ h9 => h9) rfl d_Sc_turnedOver_40 ?_
      refine lv_imul hx hb d_Sc_turnedOver_43 ?_
      refine lv_iadd hx hb d_Sc_turnedOver_44 ?_
      refine lv_goto (tgt := 49) hx hb d_Sc_turnedOver_45 (by decide) ?_
      have hP9 : va_P D vwCl ([(qg, k_Sc g)]) s.heap := hP.sub [0] rfl
      have hD9 : va_D A ([(qg, k_Sc g)]) := hD.sub [0] (by decide) rfl
      exact W.iret (v := v + ((g 3) * (g 2))) hx hb hr (fun t ht hW => ⟨⟨v + ((g 3) * (g 2)), (), rfl, by rw [f_turnedOver, if_pos c_1, if_neg c_2], by rw [ht]; exact hP9, va_K.moved hW.alike (hK.sub [] rfl), hD9⟩, hS.F ht⟩) hS.2.2 d_Sc_turnedOver_49
  · refine lv_iload_n hx hb d_Sc_turnedOver_13 rfl (lv_at hl 1 rfl) ?_
    refine lv_aload_n hx hb d_Sc_turnedOver_14 rfl (lv_at hl 0 rfl) ?_
    refine va_get (D := D) (ci := 1) (v := .int (g 3)) (C := R_Sc) (T := T_Sc) (N := 8) hx hb hu in_Sc hown hK hP 0 rfl rfl 3 (by decide) (hu _ hw_89) (fun _ h9 => h9) rfl d_Sc_turnedOver_15 ?_
    refine lv_aload_n hx hb d_Sc_turnedOver_18 rfl (lv_at hl 0 rfl) ?_
    refine va_get (D := D) (ci := 1) (v := .int (g 2)) (C := R_Sc) (T := T_Sc) (N := 8) hx hb hu in_Sc hown hK hP 0 rfl rfl 2 (by decide) (hu _ hw_85) (fun _ h9 => h9) rfl d_Sc_turnedOver_19 ?_
    refine lv_imul hx hb d_Sc_turnedOver_22 ?_
    refine lv_isub hx hb d_Sc_turnedOver_23 ?_
    have hP9 : va_P D vwCl ([(qg, k_Sc g)]) s.heap := hP.sub [0] rfl
    have hD9 : va_D A ([(qg, k_Sc g)]) := hD.sub [0] (by decide) rfl
    exact W.iret (v := v - ((g 3) * (g 2))) hx hb hr (fun t ht hW => ⟨⟨v - ((g 3) * (g 2)), (), rfl, by rw [f_turnedOver, if_neg c_1], by rw [ht]; exact hP9, va_K.moved hW.alike (hK.sub [] rfl), hD9⟩, hS.F ht⟩) hS.2.2 d_Sc_turnedOver_24
def f_asSample_2 (g : Nat → Int32) (v : Int32) (r_1 : Int32) : Int32 := r_1
def f_asSample (g : Nat → Int32) (v : Int32) : Int32 := f_asSample_2 g v (f_within v 0 (g 0))
set_option maxHeartbeats 4000000 in
set_option maxRecDepth 100000 in
theorem c_asSample (l : Launch) (D : va_G) (sa : Nat → Nat) (sz : Nat) (qg : Nat) (g : Nat → Int32) (v : Int32)  : Met l y_Sc_asSample w_Sc_asSample ({ frames := 2, cells := 0, slots := 0, locals := 36 }) (va_Pc [.ref qg, .int v] (vq_pre D sa [(qg, k_Sc g)] [] sz)) (va_Qi (fun (r0 : Int32) (u : Unit) => f_asSample g v = r0) (vq_B D (va_A [(qg, k_Sc g)] sz) [] (fun (u : Unit) => [(qg, k_Sc g)])) (va_A [(qg, k_Sc g)] sz)) 0 0 (va_A [(qg, k_Sc g)] sz) := by
  refine Met.ofW (cc := b_Sc_asSample) (maxL := 2) (ret := (some .int)) (by decide) rfl ?_
  intro p e s m args below meth c s₁ B hml hv
  obtain ⟨rfl, hsz, hP, hK, hD0, hE⟩ := hv
  have hx := B.exec
  have hb := B.bytes
  have hr := B.returns
  have hts := atoms_spec (ws := w_Sc_asSample) B.pre
  have hu : ∀ w9 ∈ vU, Cond.before w9 ([.ref qg, .int v]).toArray s = true := fun w9 h => hts w9 (List.mem_cons_of_mem _ h)
  have hown : s.vm.findClass R_Sc = some m.cls := findClass_of_methodNamed B.named
  have hlocks := B.notSynchronized
  subst hsz
  have hD := hD0.self (sz := s.heap.size)
  generalize hAe : va_A [(qg, k_Sc g)] s.heap.size = A at hD ⊢
  have hA : ∀ q : Nat, s.heap.size ≤ q → A q := fun q h => by rw [← hAe]; exact Or.inr h
  have hS : va_S A s.heap s.heap [] := va_S.rf
  have hP : va_P D vwCl [(qg, k_Sc g)] s.heap := hP
  have hl := lv_entry ([.ref qg, .int v]) (n := 2) (Nat.le_of_ble_eq_true rfl)
  rw [lg_entry_eq]
  generalize (lg_sl ([.ref qg, .int v]) ++ List.replicate (2 - (lg_sl ([.ref qg, .int v])).length) Slot.unset).toArray = ls at hl ⊢
  have hl : lv_has ls 2 [(0, .ref qg), (1, .int v)] := hl
  refine lv_iload_n hx hb d_Sc_asSample_0 rfl (lv_at hl 1 rfl) ?_
  refine lv_iconst (v := 0) hx hb d_Sc_asSample_1 (by decide) ?_
  refine lv_aload_n hx hb d_Sc_asSample_2 rfl (lv_at hl 0 rfl) ?_
  refine va_get (D := D) (ci := 1) (v := .int (g 0)) (C := R_Sc) (T := T_Sc) (N := 8) hx hb hu in_Sc hown hK hP 0 rfl rfl 0 (by decide) (hu _ hw_80) (fun _ h9 => h9) rfl d_Sc_asSample_3 ?_
  refine vq_i (wr := [(qg, k_Sc g)]) (va_runSN (As := [.int v, .int 0, .int (g 0)]) (rest := []) ⟨hx, hb, hml, hown, hts⟩ (c_within l D sa s.heap.size v 0 (g 0)) ⟨va_cnB 3 hts (vg_0 (fun w h => List.mem_cons_of_mem _ h) hw_57) rfl rfl rfl (hE.1 (.methodLinkNest R_Sc 7 y_Lp_within R_Lp) (by decide +kernel)) (hu _ hw_32) (by decide +kernel) ⟨Nat.le_of_ble_eq_true rfl, Nat.le_of_ble_eq_true rfl⟩, (hu _ hw_56), trivial⟩ (vq_pS hE hK hP hD [] [] rfl (by decide) rfl) rfl rfl hl.1 rfl (lv_room (Nat.le_of_ble_eq_true rfl)) d_Sc_asSample_6 ⟨Nat.le_of_ble_eq_true rfl, Nat.le_of_ble_eq_true rfl⟩) hP hD hS hA [] [0] rfl rfl (by decide) (by decide) (fun r_1 u_1 H locs e_1 hP hD hS => ?_)
  have hP : va_P D vwCl [(qg, k_Sc g)] H := hP
  have hD : va_D A [(qg, k_Sc g)] := hD
  have hP9 : va_P D vwCl ([(qg, k_Sc g)]) H := hP.sub [0] rfl
  have hD9 : va_D A ([(qg, k_Sc g)]) := hD.sub [0] (by decide) rfl
  exact W.iret (v := r_1) hx hb hr (fun t ht hW => ⟨⟨r_1, (), rfl, by rw [f_asSample, e_1, f_asSample_2], by rw [ht]; exact hP9, va_K.moved hW.alike (hK.sub [] rfl), hD9⟩, hS.F ht⟩) hS.2.2 d_Sc_asSample_9
def f_setFirstThresholds_15 (g : Nat → Int32) (r_2 : Int32) (r_4 : Int32) (r_6 : Int32) (r_8 : Int32) (r_10 : Int32) (r_12 : Int32) (r_14 : Int32) : Nat → Int32 := (mk8 (g 0) (g 1) (g 2) (g 3) r_10 r_12 r_14 (g 7))
def f_setFirstThresholds_13 (g : Nat → Int32) (r_2 : Int32) (r_4 : Int32) (r_6 : Int32) (r_8 : Int32) (r_10 : Int32) (r_12 : Int32) : Nat → Int32 := f_setFirstThresholds_15 g r_2 r_4 r_6 r_8 r_10 r_12 (f_thresholdOr (mk8 (g 0) (g 1) (g 2) (g 3) r_10 r_12 (g 6) (g 7)) (jmax 4 (r_8 + (7 * (g 1)))) r_12)
def f_setFirstThresholds_11 (g : Nat → Int32) (r_2 : Int32) (r_4 : Int32) (r_6 : Int32) (r_8 : Int32) (r_10 : Int32) : Nat → Int32 := f_setFirstThresholds_13 g r_2 r_4 r_6 r_8 r_10 (f_thresholdOr (mk8 (g 0) (g 1) (g 2) (g 3) r_10 (g 5) (g 6) (g 7)) (jmax 3 (r_6 + (5 * (g 1)))) r_10)
def f_setFirstThresholds_9 (g : Nat → Int32) (r_2 : Int32) (r_4 : Int32) (r_6 : Int32) (r_8 : Int32) : Nat → Int32 := f_setFirstThresholds_11 g r_2 r_4 r_6 r_8 (f_thresholdOr g (jmax 2 (r_4 + (3 * (g 1)))) ((g 1) + 1))
def f_setFirstThresholds_7 (g : Nat → Int32) (r_2 : Int32) (r_4 : Int32) (r_6 : Int32) : Nat → Int32 := f_setFirstThresholds_9 g r_2 r_4 r_6 (f_divided 21 r_2)
def f_setFirstThresholds_5 (g : Nat → Int32) (r_2 : Int32) (r_4 : Int32) : Nat → Int32 := f_setFirstThresholds_7 g r_2 r_4 (f_divided 7 r_2)
def f_setFirstThresholds_3 (g : Nat → Int32) (r_2 : Int32) : Nat → Int32 := f_setFirstThresholds_5 g r_2 (f_divided 3 r_2)
def f_setFirstThresholds_21 (g : Nat → Int32) (r_16 : Int32) (r_18 : Int32) (r_20 : Int32) : Nat → Int32 := (mk8 (g 0) (g 1) (g 2) (g 3) r_16 r_18 r_20 (g 7))
def f_setFirstThresholds_19 (g : Nat → Int32) (r_16 : Int32) (r_18 : Int32) : Nat → Int32 := f_setFirstThresholds_21 g r_16 r_18 (f_thresholdOr (mk8 (g 0) (g 1) (g 2) (g 3) r_16 r_18 (g 6) (g 7)) (((17 * (((jmin (g 0) 4095) + 128) / 256)) + 4) + (7 * (g 1))) r_18)
def f_setFirstThresholds_17 (g : Nat → Int32) (r_16 : Int32) : Nat → Int32 := f_setFirstThresholds_19 g r_16 (f_thresholdOr (mk8 (g 0) (g 1) (g 2) (g 3) r_16 (g 5) (g 6) (g 7)) (((4 * (((jmin (g 0) 4095) + 128) / 256)) + 3) + (5 * (g 1))) r_16)
def f_setFirstThresholds (g : Nat → Int32) : Nat → Int32 :=
  if (g 0) < 128 then f_setFirstThresholds_3 g (f_divided 256 ((g 0) + 1))
  else f_setFirstThresholds_17 g (f_thresholdOr g (((((jmin (g 0) 4095) + 128) / 256) + 2) + (3 * (g 1))) ((g 1) + 1))
set_option maxHeartbeats 4000000 in
set_option maxRecDepth 100000 in
theorem c_setFirstThresholds (l : Launch) (D : va_G) (sa : Nat → Nat) (sz : Nat) (qg : Nat) (g : Nat → Int32)  : Met l y_Sc_setFirstThresholds w_Sc_setFirstThresholds ({ frames := 1, cells := 0, slots := 0, locals := 22 }) (va_Pc [.ref qg] (vq_pre D sa [(qg, k_Sc g)] [] sz)) (va_Qv (fun (u : (Nat → Int32)) => f_setFirstThresholds g = u) (vq_B D (va_A [(qg, k_Sc g)] sz) [] (fun (u : (Nat → Int32)) => [(qg, k_Sc u)])) (va_A [(qg, k_Sc g)] sz)) 0 0 (va_A [(qg, k_Sc g)] sz) := by
  refine Met.ofW (cc := b_Sc_setFirstThresholds) (maxL := 5) (ret := none) (by decide) rfl ?_
  intro p e s m args below meth c s₁ B hml hv
  obtain ⟨rfl, hsz, hP, hK, hD0, hE⟩ := hv
  have hx := B.exec
  have hb := B.bytes
  have hr := B.returns
  have hts := atoms_spec (ws := w_Sc_setFirstThresholds) B.pre
  have hu : ∀ w9 ∈ vU, Cond.before w9 ([.ref qg]).toArray s = true := fun w9 h => hts w9 (List.mem_cons_of_mem _ h)
  have hown : s.vm.findClass R_Sc = some m.cls := findClass_of_methodNamed B.named
  have hlocks := B.notSynchronized
  subst hsz
  have hD := hD0.self (sz := s.heap.size)
  generalize hAe : va_A [(qg, k_Sc g)] s.heap.size = A at hD ⊢
  have hA : ∀ q : Nat, s.heap.size ≤ q → A q := fun q h => by rw [← hAe]; exact Or.inr h
  have hS : va_S A s.heap s.heap [] := va_S.rf
  have hP : va_P D vwCl [(qg, k_Sc g)] s.heap := hP
  have hl := lv_entry ([.ref qg]) (n := 5) (Nat.le_of_ble_eq_true rfl)
  rw [lg_entry_eq]
  generalize (lg_sl ([.ref qg]) ++ List.replicate (5 - (lg_sl ([.ref qg])).length) Slot.unset).toArray = ls at hl ⊢
  have hl : lv_has ls 5 [(0, .ref qg)] := hl
  refine lv_aload_n hx hb d_Sc_setFirstThresholds_0 rfl (lv_at hl 0 rfl) ?_
  refine va_get (D := D) (ci := 1) (v := .int (g 0)) (C := R_Sc) (T := T_Sc) (N := 8) hx hb hu in_Sc hown hK hP 0 rfl rfl 0 (by decide) (hu _ hw_80) (fun _ h9 => h9) rfl d_Sc_setFirstThresholds_1 ?_
  refine lv_sipush (v := 128) hx hb d_Sc_setFirstThresholds_4 (by decide) ?_
  refine lv_icmp_lt (tgt := 75) hx hb d_Sc_setFirstThresholds_7 (by decide) (fun c_1 => ?_) (fun c_1 => ?_)
  · refine lv_sipush (v := 256) hx hb d_Sc_setFirstThresholds_75 (by decide) ?_
    refine lv_aload_n hx hb d_Sc_setFirstThresholds_78 rfl (lv_at hl 0 rfl) ?_
    refine va_get (D := D) (ci := 1) (v := .int (g 0)) (C := R_Sc) (T := T_Sc) (N := 8) hx hb hu in_Sc hown hK hP 0 rfl rfl 0 (by decide) (hu _ hw_80) (fun _ h9 => h9) rfl d_Sc_setFirstThresholds_79 ?_
    refine lv_iconst (v := 1) hx hb d_Sc_setFirstThresholds_82 (by decide) ?_
    refine lv_iadd hx hb d_Sc_setFirstThresholds_83 ?_
    refine vq_i (wr := [(qg, k_Sc g)]) (va_runSN (As := [.int 256, .int ((g 0) + 1)]) (rest := []) ⟨hx, hb, hml, hown, hts⟩ (c_divided l D sa s.heap.size 256 ((g 0) + 1)) ⟨va_cnB 2 hts (vg_0 (fun w h => List.mem_cons_of_mem _ h) hw_72) rfl rfl rfl (hE.1 (.methodLinkNest R_Sc 31 y_Lp_divided R_Lp) (by decide +kernel)) (hu _ hw_32) (by decide +kernel) ⟨Nat.le_of_ble_eq_true rfl, Nat.le_of_ble_eq_true rfl⟩, (hu _ hw_71), trivial⟩ (vq_pS hE hK hP hD [] [] rfl (by decide) rfl) rfl rfl hl.1 rfl (lv_room (Nat.le_of_ble_eq_true rfl)) d_Sc_setFirstThresholds_84 ⟨Nat.le_of_ble_eq_true rfl, Nat.le_of_ble_eq_true rfl⟩) hP hD hS hA [] [0] rfl rfl (by decide) (by decide) (fun r_2 u_2 H locs e_2 hP hD hS => ?_)
    have hP : va_P D vwCl [(qg, k_Sc g)] H := hP
    have hD : va_D A [(qg, k_Sc g)] := hD
    refine lv_istore (lv' := [(4, .int r_2), (0, .ref qg)]) hx hb d_Sc_setFirstThresholds_87 hl (by decide) rfl (fun ls hl => ?_)
    refine lv_iconst (v := 2) hx hb d_Sc_setFirstThresholds_89 (by decide) ?_
    refine lv_iconst (v := 3) hx hb d_Sc_setFirstThresholds_90 (by decide) ?_
    refine lv_iload hx hb d_Sc_setFirstThresholds_91 (lv_at hl 0 rfl) ?_
    refine vq_i (wr := [(qg, k_Sc g)]) (va_runSN (As := [.int 3, .int r_2]) (rest := [.int 2]) ⟨hx, hb, hml, hown, hts⟩ (c_divided l D sa H.size 3 r_2) ⟨va_cnB 2 hts (vg_0 (fun w h => List.mem_cons_of_mem _ h) hw_72) rfl rfl rfl (hE.1 (.methodLinkNest R_Sc 31 y_Lp_divided R_Lp) (by decide +kernel)) (hu _ hw_32) (by decide +kernel) ⟨Nat.le_of_ble_eq_true rfl, Nat.le_of_ble_eq_true rfl⟩, (hu _ hw_71), trivial⟩ (vq_pS hE hK hP hD [] [] rfl (by decide) rfl) rfl rfl hl.1 rfl (lv_room (Nat.le_of_ble_eq_true rfl)) d_Sc_setFirstThresholds_93 ⟨Nat.le_of_ble_eq_true rfl, Nat.le_of_ble_eq_true rfl⟩) hP hD hS hA [] [0] rfl rfl (by decide) (by decide) (fun r_4 u_4 H locs e_4 hP hD hS => ?_)
    have hP : va_P D vwCl [(qg, k_Sc g)] H := hP
    have hD : va_D A [(qg, k_Sc g)] := hD
    refine lv_iconst (v := 3) hx hb d_Sc_setFirstThresholds_96 (by decide) ?_
    refine lv_aload_n hx hb d_Sc_setFirstThresholds_97 rfl (lv_at hl 1 rfl) ?_
    refine va_get (D := D) (ci := 1) (v := .int (g 1)) (C := R_Sc) (T := T_Sc) (N := 8) hx hb hu in_Sc hown hK hP 0 rfl rfl 1 (by decide) (hu _ hw_82) (fun _ h9 => h9) rfl d_Sc_setFirstThresholds_98 ?_
    refine lv_imul hx hb d_Sc_setFirstThresholds_101 ?_
    refine lv_iadd hx hb d_Sc_setFirstThresholds_102 ?_
    refine va_mmax hx hb (hml.trans hl.1.symm) hown (hu _ hw_76) (hu _ hw_62) (hu _ hw_33) (hu _ hw_63) (Nat.le_of_ble_eq_true rfl) (Nat.le_of_ble_eq_true rfl) (Nat.le_of_ble_eq_true rfl) (Nat.le_of_ble_eq_true rfl) d_Sc_setFirstThresholds_103 ?_
    refine W.eq (g2 := F0 m 106 ls [.int (jmax 2 (r_4 + (3 * (g 1))))]) rfl ?_
    refine lv_istore_n (lv' := [(1, .int (jmax 2 (r_4 + (3 * (g 1))))), (4, .int r_2), (0, .ref qg)]) hx hb d_Sc_setFirstThresholds_106 rfl hl (by decide) rfl (fun ls hl => ?_)
    refine lv_iconst (v := 3) hx hb d_Sc_setFirstThresholds_107 (by decide) ?_
    refine lv_bipush (v := 7) hx hb d_Sc_setFirstThresholds_108 (by decide) ?_
    refine lv_iload hx hb d_Sc_setFirstThresholds_110 (lv_at hl 1 rfl) ?_
    refine vq_i (wr := [(qg, k_Sc g)]) (va_runSN (As := [.int 7, .int r_2]) (rest := [.int 3]) ⟨hx, hb, hml, hown, hts⟩ (c_divided l D sa H.size 7 r_2) ⟨va_cnB 2 hts (vg_0 (fun w h => List.mem_cons_of_mem _ h) hw_72) rfl rfl rfl (hE.1 (.methodLinkNest R_Sc 31 y_Lp_divided R_Lp) (by decide +kernel)) (hu _ hw_32) (by decide +kernel) ⟨Nat.le_of_ble_eq_true rfl, Nat.le_of_ble_eq_true rfl⟩, (hu _ hw_71), trivial⟩ (vq_pS hE hK hP hD [] [] rfl (by decide) rfl) rfl rfl hl.1 rfl (lv_room (Nat.le_of_ble_eq_true rfl)) d_Sc_setFirstThresholds_112 ⟨Nat.le_of_ble_eq_true rfl, Nat.le_of_ble_eq_true rfl⟩) hP hD hS hA [] [0] rfl rfl (by decide) (by decide) (fun r_6 u_6 H locs e_6 hP hD hS => ?_)
    have hP : va_P D vwCl [(qg, k_Sc g)] H := hP
    have hD : va_D A [(qg, k_Sc g)] := hD
    refine lv_iconst (v := 5) hx hb d_Sc_setFirstThresholds_115 (by decide) ?_
    refine lv_aload_n hx hb d_Sc_setFirstThresholds_116 rfl (lv_at hl 2 rfl) ?_
    refine va_get (D := D) (ci := 1) (v := .int (g 1)) (C := R_Sc) (T := T_Sc) (N := 8) hx hb hu in_Sc hown hK hP 0 rfl rfl 1 (by decide) (hu _ hw_82) (fun _ h9 => h9) rfl d_Sc_setFirstThresholds_117 ?_
    refine lv_imul hx hb d_Sc_setFirstThresholds_120 ?_
    refine lv_iadd hx hb d_Sc_setFirstThresholds_121 ?_
    refine va_mmax hx hb (hml.trans hl.1.symm) hown (hu _ hw_76) (hu _ hw_62) (hu _ hw_33) (hu _ hw_63) (Nat.le_of_ble_eq_true rfl) (Nat.le_of_ble_eq_true rfl) (Nat.le_of_ble_eq_true rfl) (Nat.le_of_ble_eq_true rfl) d_Sc_setFirstThresholds_122 ?_
    refine W.eq (g2 := F0 m 125 ls [.int (jmax 3 (r_6 + (5 * (g 1))))]) rfl ?_
    refine lv_istore_n (lv' := [(2, .int (jmax 3 (r_6 + (5 * (g 1))))), (1, .int (jmax 2 (r_4 + (3 * (g 1))))), (4, .int r_2), (0, .ref qg)]) hx hb d_Sc_setFirstThresholds_125 rfl hl (by decide) rfl (fun ls hl => ?_)
    refine lv_iconst (v := 4) hx hb d_Sc_setFirstThresholds_126 (by decide) ?_
    refine lv_bipush (v := 21) hx hb d_Sc_setFirstThresholds_127 (by decide) ?_
    refine lv_iload hx hb d_Sc_setFirstThresholds_129 (lv_at hl 2 rfl) ?_
    refine vq_i (wr := [(qg, k_Sc g)]) (va_runSN (As := [.int 21, .int r_2]) (rest := [.int 4]) ⟨hx, hb, hml, hown, hts⟩ (c_divided l D sa H.size 21 r_2) ⟨va_cnB 2 hts (vg_0 (fun w h => List.mem_cons_of_mem _ h) hw_72) rfl rfl rfl (hE.1 (.methodLinkNest R_Sc 31 y_Lp_divided R_Lp) (by decide +kernel)) (hu _ hw_32) (by decide +kernel) ⟨Nat.le_of_ble_eq_true rfl, Nat.le_of_ble_eq_true rfl⟩, (hu _ hw_71), trivial⟩ (vq_pS hE hK hP hD [] [] rfl (by decide) rfl) rfl rfl hl.1 rfl (lv_room (Nat.le_of_ble_eq_true rfl)) d_Sc_setFirstThresholds_131 ⟨Nat.le_of_ble_eq_true rfl, Nat.le_of_ble_eq_true rfl⟩) hP hD hS hA [] [0] rfl rfl (by decide) (by decide) (fun r_8 u_8 H locs e_8 hP hD hS => ?_)
    have hP : va_P D vwCl [(qg, k_Sc g)] H := hP
    have hD : va_D A [(qg, k_Sc g)] := hD
    refine lv_bipush (v := 7) hx hb d_Sc_setFirstThresholds_134 (by decide) ?_
    refine lv_aload_n hx hb d_Sc_setFirstThresholds_136 rfl (lv_at hl 3 rfl) ?_
    refine va_get (D := D) (ci := 1) (v := .int (g 1)) (C := R_Sc) (T := T_Sc) (N := 8) hx hb hu in_Sc hown hK hP 0 rfl rfl 1 (by decide) (hu _ hw_82) (fun _ h9 => h9) rfl d_Sc_setFirstThresholds_137 ?_
    refine lv_imul hx hb d_Sc_setFirstThresholds_140 ?_
    refine lv_iadd hx hb d_Sc_setFirstThresholds_141 ?_
    refine va_mmax hx hb (hml.trans hl.1.symm) hown (hu _ hw_76) (hu _ hw_62) (hu _ hw_33) (hu _ hw_63) (Nat.le_of_ble_eq_true rfl) (Nat.le_of_ble_eq_true rfl) (Nat.le_of_ble_eq_true rfl) (Nat.le_of_ble_eq_true rfl) d_Sc_setFirstThresholds_142 ?_
    refine W.eq (g2 := F0 m 145 ls [.int (jmax 4 (r_8 + (7 * (g 1))))]) rfl ?_
    refine lv_istore_n (lv' := [(3, .int (jmax 4 (r_8 + (7 * (g 1))))), (2, .int (jmax 3 (r_6 + (5 * (g 1))))), (1, .int (jmax 2 (r_4 + (3 * (g 1))))), (4, .int r_2), (0, .ref qg)]) hx hb d_Sc_setFirstThresholds_145 rfl hl (by decide) rfl (fun ls hl => ?_)
    refine lv_aload_n hx hb d_Sc_setFirstThresholds_146 rfl (lv_at hl 4 rfl) ?_
    refine lv_aload_n hx hb d_Sc_setFirstThresholds_147 rfl (lv_at hl 4 rfl) ?_
    refine lv_iload_n hx hb d_Sc_setFirstThresholds_148 rfl (lv_at hl 2 rfl) ?_
    refine lv_aload_n hx hb d_Sc_setFirstThresholds_149 rfl (lv_at hl 4 rfl) ?_
    refine va_get (D := D) (ci := 1) (v := .int (g 1)) (C := R_Sc) (T := T_Sc) (N := 8) hx hb hu in_Sc hown hK hP 0 rfl rfl 1 (by decide) (hu _ hw_82) (fun _ h9 => h9) rfl d_Sc_setFirstThresholds_150 ?_
    refine lv_iconst (v := 1) hx hb d_Sc_setFirstThresholds_153 (by decide) ?_
    refine lv_iadd hx hb d_Sc_setFirstThresholds_154 ?_
    refine vq_i (wr := []) (va_runV (As := [.int (jmax 2 (r_4 + (3 * (g 1)))), .int ((g 1) + 1)]) (rest := [.ref qg]) ⟨hx, hb, hml, hown, hts⟩ (c_thresholdOr l D sa H.size qg g (jmax 2 (r_4 + (3 * (g 1)))) ((g 1) + 1)) (cwV 2 hts (vg_V (fun w h => List.mem_cons_of_mem _ h) hw_77 hw_78 hw_1 hw_34 hw_79) rfl rfl rfl (by decide +kernel) ⟨Nat.le_of_ble_eq_true rfl, Nat.le_of_ble_eq_true rfl⟩) (vq_pV hE hK hP hD [0] [] rfl (by decide) rfl 1 0 rfl rfl rfl) rfl rfl hl.1 rfl (lv_room (Nat.le_of_ble_eq_true rfl)) d_Sc_setFirstThresholds_155 ⟨Nat.le_of_ble_eq_true rfl, Nat.le_of_ble_eq_true rfl⟩) hP hD hS hA [0] [] rfl rfl (by decide) (by decide) (fun r_10 u_10 H locs e_10 hP hD hS => ?_)
    have hP : va_P D vwCl [(qg, k_Sc g)] H := hP
    have hD : va_D A [(qg, k_Sc g)] := hD
    refine va_put (D := D) (ci := 1) (v := .int r_10) (ty := .int) (C := R_Sc) (T := T_Sc) (N := 8) hx hb hu in_Sc t_Sc t_Sc_ok n_Sc hown hK hP hD hS 0 rfl rfl 4 (by decide) (hu _ hw_92) (fun _ h9 => h9) rfl (by decide +kernel) rfl rfl (Nat.le_of_ble_eq_true rfl) d_Sc_setFirstThresholds_158 (fun H locs hP hD hS => ?_)
    have hP : va_P D vwCl [(qg, .inr (1, [.int (g 0), .int (g 1), .int (g 2), .int (g 3), .int r_10, .int (g 5), .int (g 6), .int (g 7)]))] H := hP
    have hD : va_D A [(qg, .inr (1, [.int (g 0), .int (g 1), .int (g 2), .int (g 3), .int r_10, .int (g 5), .int (g 6), .int (g 7)]))] := hD
    refine lv_aload_n hx hb d_Sc_setFirstThresholds_161 rfl (lv_at hl 4 rfl) ?_
    refine lv_aload_n hx hb d_Sc_setFirstThresholds_162 rfl (lv_at hl 4 rfl) ?_
    refine lv_iload_n hx hb d_Sc_setFirstThresholds_163 rfl (lv_at hl 1 rfl) ?_
    refine lv_aload_n hx hb d_Sc_setFirstThresholds_164 rfl (lv_at hl 4 rfl) ?_
    refine va_get (D := D) (ci := 1) (v := .int r_10) (C := R_Sc) (T := T_Sc) (N := 8) hx hb hu in_Sc hown hK hP 0 rfl rfl 4 (by decide) (hu _ hw_92) (fun _ h9 => h9) rfl d_Sc_setFirstThresholds_165 ?_
    refine vq_i (wr := []) (va_runV (As := [.int (jmax 3 (r_6 + (5 * (g 1)))), .int r_10]) (rest := [.ref qg]) ⟨hx, hb, hml, hown, hts⟩ (c_thresholdOr l D sa H.size qg (mk8 (g 0) (g 1) (g 2) (g 3) r_10 (g 5) (g 6) (g 7)) (jmax 3 (r_6 + (5 * (g 1)))) r_10) (cwV 2 hts (vg_V (fun w h => List.mem_cons_of_mem _ h) hw_77 hw_78 hw_1 hw_34 hw_79) rfl rfl rfl (by decide +kernel) ⟨Nat.le_of_ble_eq_true rfl, Nat.le_of_ble_eq_true rfl⟩) (vq_pV hE hK hP hD [0] [] rfl (by decide) rfl 1 0 rfl rfl rfl) rfl rfl hl.1 rfl (lv_room (Nat.le_of_ble_eq_true rfl)) d_Sc_setFirstThresholds_168 ⟨Nat.le_of_ble_eq_true rfl, Nat.le_of_ble_eq_true rfl⟩) hP hD hS hA [0] [] rfl rfl (by decide) (by decide) (fun r_12 u_12 H locs e_12 hP hD hS => ?_)
    have hP : va_P D vwCl [(qg, .inr (1, [.int (g 0), .int (g 1), .int (g 2), .int (g 3), .int r_10, .int (g 5), .int (g 6), .int (g 7)]))] H := hP
    have hD : va_D A [(qg, .inr (1, [.int (g 0), .int (g 1), .int (g 2), .int (g 3), .int r_10, .int (g 5), .int (g 6), .int (g 7)]))] := hD
    refine va_put (D := D) (ci := 1) (v := .int r_12) (ty := .int) (C := R_Sc) (T := T_Sc) (N := 8) hx hb hu in_Sc t_Sc t_Sc_ok n_Sc hown hK hP hD hS 0 rfl rfl 5 (by decide) (hu _ hw_94) (fun _ h9 => h9) rfl (by decide +kernel) rfl rfl (Nat.le_of_ble_eq_true rfl) d_Sc_setFirstThresholds_171 (fun H locs hP hD hS => ?_)
    have hP : va_P D vwCl [(qg, .inr (1, [.int (g 0), .int (g 1), .int (g 2), .int (g 3), .int r_10, .int r_12, .int (g 6), .int (g 7)]))] H := hP
    have hD : va_D A [(qg, .inr (1, [.int (g 0), .int (g 1), .int (g 2), .int (g 3), .int r_10, .int r_12, .int (g 6), .int (g 7)]))] := hD
    refine lv_aload_n hx hb d_Sc_setFirstThresholds_174 rfl (lv_at hl 4 rfl) ?_
    refine lv_aload_n hx hb d_Sc_setFirstThresholds_175 rfl (lv_at hl 4 rfl) ?_
    refine lv_iload_n hx hb d_Sc_setFirstThresholds_176 rfl (lv_at hl 0 rfl) ?_
    refine lv_aload_n hx hb d_Sc_setFirstThresholds_177 rfl (lv_at hl 4 rfl) ?_
    refine va_get (D := D) (ci := 1) (v := .int r_12) (C := R_Sc) (T := T_Sc) (N := 8) hx hb hu in_Sc hown hK hP 0 rfl rfl 5 (by decide) (hu _ hw_94) (fun _ h9 => h9) rfl d_Sc_setFirstThresholds_178 ?_
    refine vq_i (wr := []) (va_runV (As := [.int (jmax 4 (r_8 + (7 * (g 1)))), .int r_12]) (rest := [.ref qg]) ⟨hx, hb, hml, hown, hts⟩ (c_thresholdOr l D sa H.size qg (mk8 (g 0) (g 1) (g 2) (g 3) r_10 r_12 (g 6) (g 7)) (jmax 4 (r_8 + (7 * (g 1)))) r_12) (cwV 2 hts (vg_V (fun w h => List.mem_cons_of_mem _ h) hw_77 hw_78 hw_1 hw_34 hw_79) rfl rfl rfl (by decide +kernel) ⟨Nat.le_of_ble_eq_true rfl, Nat.le_of_ble_eq_true rfl⟩) (vq_pV hE hK hP hD [0] [] rfl (by decide) rfl 1 0 rfl rfl rfl) rfl rfl hl.1 rfl (lv_room (Nat.le_of_ble_eq_true rfl)) d_Sc_setFirstThresholds_181 ⟨Nat.le_of_ble_eq_true rfl, Nat.le_of_ble_eq_true rfl⟩) hP hD hS hA [0] [] rfl rfl (by decide) (by decide) (fun r_14 u_14 H locs e_14 hP hD hS => ?_)
    have hP : va_P D vwCl [(qg, .inr (1, [.int (g 0), .int (g 1), .int (g 2), .int (g 3), .int r_10, .int r_12, .int (g 6), .int (g 7)]))] H := hP
    have hD : va_D A [(qg, .inr (1, [.int (g 0), .int (g 1), .int (g 2), .int (g 3), .int r_10, .int r_12, .int (g 6), .int (g 7)]))] := hD
    refine va_put (D := D) (ci := 1) (v := .int r_14) (ty := .int) (C := R_Sc) (T := T_Sc) (N := 8) hx hb hu in_Sc t_Sc t_Sc_ok n_Sc hown hK hP hD hS 0 rfl rfl 6 (by decide) (hu _ hw_96) (fun _ h9 => h9) rfl (by decide +kernel) rfl rfl (Nat.le_of_ble_eq_true rfl) d_Sc_setFirstThresholds_184 (fun H locs hP hD hS => ?_)
    have hP : va_P D vwCl [(qg, .inr (1, [.int (g 0), .int (g 1), .int (g 2), .int (g 3), .int r_10, .int r_12, .int r_14, .int (g 7)]))] H := hP
    have hD : va_D A [(qg, .inr (1, [.int (g 0), .int (g 1), .int (g 2), .int (g 3), .int r_10, .int r_12, .int r_14, .int (g 7)]))] := hD
    have hP9 : va_P D vwCl ([(qg, k_Sc (mk8 (g 0) (g 1) (g 2) (g 3) r_10 r_12 r_14 (g 7)))]) H := hP.sub [0] rfl
    have hD9 : va_D A ([(qg, k_Sc (mk8 (g 0) (g 1) (g 2) (g 3) r_10 r_12 r_14 (g 7)))]) := hD.sub [0] (by decide) rfl
    exact W.vret hx hb hr (fun t ht hW => ⟨⟨(mk8 (g 0) (g 1) (g 2) (g 3) r_10 r_12 r_14 (g 7)), rfl, by rw [f_setFirstThresholds, if_pos c_1, e_2, f_setFirstThresholds_3, e_4, f_setFirstThresholds_5, e_6, f_setFirstThresholds_7, e_8, f_setFirstThresholds_9, e_10, f_setFirstThresholds_11, e_12, f_setFirstThresholds_13, e_14, f_setFirstThresholds_15], by rw [ht]; exact hP9, va_K.moved hW.alike (hK.sub [] rfl), hD9⟩, hS.F ht⟩) hS.2.2 d_Sc_setFirstThresholds_187
  · refine lv_aload_n hx hb d_Sc_setFirstThresholds_10 rfl (lv_at hl 0 rfl) ?_
    refine va_get (D := D) (ci := 1) (v := .int (g 0)) (C := R_Sc) (T := T_Sc) (N := 8) hx hb hu in_Sc hown hK hP 0 rfl rfl 0 (by decide) (hu _ hw_80) (fun _ h9 => h9) rfl d_Sc_setFirstThresholds_11 ?_
    refine lv_sipush (v := 4095) hx hb d_Sc_setFirstThresholds_14 (by decide) ?_
    refine va_mmin hx hb (hml.trans hl.1.symm) hown (hu _ hw_70) (hu _ hw_59) (hu _ hw_33) (hu _ hw_60) (Nat.le_of_ble_eq_true rfl) (Nat.le_of_ble_eq_true rfl) (Nat.le_of_ble_eq_true rfl) (Nat.le_of_ble_eq_true rfl) d_Sc_setFirstThresholds_17 ?_
    refine W.eq (g2 := F0 m 20 ls [.int (jmin (g 0) 4095)]) rfl ?_
    refine lv_sipush (v := 128) hx hb d_Sc_setFirstThresholds_20 (by decide) ?_
    refine lv_iadd hx hb d_Sc_setFirstThresholds_23 ?_
    refine lv_sipush (v := 256) hx hb d_Sc_setFirstThresholds_24 (by decide) ?_
    refine lv_idiv hx hb d_Sc_setFirstThresholds_27 (by decide) ?_
    refine lv_istore (lv' := [(4, .int (((jmin (g 0) 4095) + 128) / 256)), (0, .ref qg)]) hx hb d_Sc_setFirstThresholds_28 hl (by decide) rfl (fun ls hl => ?_)
    refine lv_iload hx hb d_Sc_setFirstThresholds_30 (lv_at hl 0 rfl) ?_
    refine lv_iconst (v := 2) hx hb d_Sc_setFirstThresholds_32 (by decide) ?_
    refine lv_iadd hx hb d_Sc_setFirstThresholds_33 ?_
    refine lv_iconst (v := 3) hx hb d_Sc_setFirstThresholds_34 (by decide) ?_
    refine lv_aload_n hx hb d_Sc_setFirstThresholds_35 rfl (lv_at hl 1 rfl) ?_
    refine va_get (D := D) (ci := 1) (v := .int (g 1)) (C := R_Sc) (T := T_Sc) (N := 8) hx hb hu in_Sc hown hK hP 0 rfl rfl 1 (by decide) (hu _ hw_82) (fun _ h9 => h9) rfl d_Sc_setFirstThresholds_36 ?_
    refine lv_imul hx hb d_Sc_setFirstThresholds_39 ?_
    refine lv_iadd hx hb d_Sc_setFirstThresholds_40 ?_
    refine lv_istore_n (lv' := [(1, .int (((((jmin (g 0) 4095) + 128) / 256) + 2) + (3 * (g 1)))), (4, .int (((jmin (g 0) 4095) + 128) / 256)), (0, .ref qg)]) hx hb d_Sc_setFirstThresholds_41 rfl hl (by decide) rfl (fun ls hl => ?_)
    refine lv_iconst (v := 4) hx hb d_Sc_setFirstThresholds_42 (by decide) ?_
    refine lv_iload hx hb d_Sc_setFirstThresholds_43 (lv_at hl 1 rfl) ?_
    refine lv_imul hx hb d_Sc_setFirstThresholds_45 ?_
    refine lv_iconst (v := 3) hx hb d_Sc_setFirstThresholds_46 (by decide) ?_
    refine lv_iadd hx hb d_Sc_setFirstThresholds_47 ?_
    refine lv_iconst (v := 5) hx hb d_Sc_setFirstThresholds_48 (by decide) ?_
    refine lv_aload_n hx hb d_Sc_setFirstThresholds_49 rfl (lv_at hl 2 rfl) ?_
    refine va_get (D := D) (ci := 1) (v := .int (g 1)) (C := R_Sc) (T := T_Sc) (N := 8) hx hb hu in_Sc hown hK hP 0 rfl rfl 1 (by decide) (hu _ hw_82) (fun _ h9 => h9) rfl d_Sc_setFirstThresholds_50 ?_
    refine lv_imul hx hb d_Sc_setFirstThresholds_53 ?_
    refine lv_iadd hx hb d_Sc_setFirstThresholds_54 ?_
    refine lv_istore_n (lv' := [(2, .int (((4 * (((jmin (g 0) 4095) + 128) / 256)) + 3) + (5 * (g 1)))), (1, .int (((((jmin (g 0) 4095) + 128) / 256) + 2) + (3 * (g 1)))), (4, .int (((jmin (g 0) 4095) + 128) / 256)), (0, .ref qg)]) hx hb d_Sc_setFirstThresholds_55 rfl hl (by decide) rfl (fun ls hl => ?_)
    refine lv_bipush (v := 17) hx hb d_Sc_setFirstThresholds_56 (by decide) ?_
    refine lv_iload hx hb d_Sc_setFirstThresholds_58 (lv_at hl 2 rfl) ?_
    refine lv_imul hx hb d_Sc_setFirstThresholds_60 ?_
    refine lv_iconst (v := 4) hx hb d_Sc_setFirstThresholds_61 (by decide) ?_
    refine lv_iadd hx hb d_Sc_setFirstThresholds_62 ?_
    refine lv_bipush (v := 7) hx hb d_Sc_setFirstThresholds_63 (by decide) ?_
    refine lv_aload_n hx hb d_Sc_setFirstThresholds_65 rfl (lv_at hl 3 rfl) ?_
    refine va_get (D := D) (ci := 1) (v := .int (g 1)) (C := R_Sc) (T := T_Sc) (N := 8) hx hb hu in_Sc hown hK hP 0 rfl rfl 1 (by decide) (hu _ hw_82) (fun _ h9 => h9) rfl d_Sc_setFirstThresholds_66 ?_
    refine lv_imul hx hb d_Sc_setFirstThresholds_69 ?_
    refine lv_iadd hx hb d_Sc_setFirstThresholds_70 ?_
    refine lv_istore_n (lv' := [(3, .int (((17 * (((jmin (g 0) 4095) + 128) / 256)) + 4) + (7 * (g 1)))), (2, .int (((4 * (((jmin (g 0) 4095) + 128) / 256)) + 3) + (5 * (g 1)))), (1, .int (((((jmin (g 0) 4095) + 128) / 256) + 2) + (3 * (g 1)))), (4, .int (((jmin (g 0) 4095) + 128) / 256)), (0, .ref qg)]) hx hb d_Sc_setFirstThresholds_71 rfl hl (by decide) rfl (fun ls hl => ?_)
    refine lv_goto (tgt := 146) hx hb d_Sc_setFirstThresholds_72 (by decide) ?_
    refine lv_aload_n hx hb d_Sc_setFirstThresholds_146 rfl (lv_at hl 4 rfl) ?_
    refine lv_aload_n hx hb d_Sc_setFirstThresholds_147 rfl (lv_at hl 4 rfl) ?_
    refine lv_iload_n hx hb d_Sc_setFirstThresholds_148 rfl (lv_at hl 2 rfl) ?_
    refine lv_aload_n hx hb d_Sc_setFirstThresholds_149 rfl (lv_at hl 4 rfl) ?_
    refine va_get (D := D) (ci := 1) (v := .int (g 1)) (C := R_Sc) (T := T_Sc) (N := 8) hx hb hu in_Sc hown hK hP 0 rfl rfl 1 (by decide) (hu _ hw_82) (fun _ h9 => h9) rfl d_Sc_setFirstThresholds_150 ?_
    refine lv_iconst (v := 1) hx hb d_Sc_setFirstThresholds_153 (by decide) ?_
    refine lv_iadd hx hb d_Sc_setFirstThresholds_154 ?_
    refine vq_i (wr := []) (va_runV (As := [.int (((((jmin (g 0) 4095) + 128) / 256) + 2) + (3 * (g 1))), .int ((g 1) + 1)]) (rest := [.ref qg]) ⟨hx, hb, hml, hown, hts⟩ (c_thresholdOr l D sa s.heap.size qg g (((((jmin (g 0) 4095) + 128) / 256) + 2) + (3 * (g 1))) ((g 1) + 1)) (cwV 2 hts (vg_V (fun w h => List.mem_cons_of_mem _ h) hw_77 hw_78 hw_1 hw_34 hw_79) rfl rfl rfl (by decide +kernel) ⟨Nat.le_of_ble_eq_true rfl, Nat.le_of_ble_eq_true rfl⟩) (vq_pV hE hK hP hD [0] [] rfl (by decide) rfl 1 0 rfl rfl rfl) rfl rfl hl.1 rfl (lv_room (Nat.le_of_ble_eq_true rfl)) d_Sc_setFirstThresholds_155 ⟨Nat.le_of_ble_eq_true rfl, Nat.le_of_ble_eq_true rfl⟩) hP hD hS hA [0] [] rfl rfl (by decide) (by decide) (fun r_16 u_16 H locs e_16 hP hD hS => ?_)
    have hP : va_P D vwCl [(qg, k_Sc g)] H := hP
    have hD : va_D A [(qg, k_Sc g)] := hD
    refine va_put (D := D) (ci := 1) (v := .int r_16) (ty := .int) (C := R_Sc) (T := T_Sc) (N := 8) hx hb hu in_Sc t_Sc t_Sc_ok n_Sc hown hK hP hD hS 0 rfl rfl 4 (by decide) (hu _ hw_92) (fun _ h9 => h9) rfl (by decide +kernel) rfl rfl (Nat.le_of_ble_eq_true rfl) d_Sc_setFirstThresholds_158 (fun H locs hP hD hS => ?_)
    have hP : va_P D vwCl [(qg, .inr (1, [.int (g 0), .int (g 1), .int (g 2), .int (g 3), .int r_16, .int (g 5), .int (g 6), .int (g 7)]))] H := hP
    have hD : va_D A [(qg, .inr (1, [.int (g 0), .int (g 1), .int (g 2), .int (g 3), .int r_16, .int (g 5), .int (g 6), .int (g 7)]))] := hD
    refine lv_aload_n hx hb d_Sc_setFirstThresholds_161 rfl (lv_at hl 4 rfl) ?_
    refine lv_aload_n hx hb d_Sc_setFirstThresholds_162 rfl (lv_at hl 4 rfl) ?_
    refine lv_iload_n hx hb d_Sc_setFirstThresholds_163 rfl (lv_at hl 1 rfl) ?_
    refine lv_aload_n hx hb d_Sc_setFirstThresholds_164 rfl (lv_at hl 4 rfl) ?_
    refine va_get (D := D) (ci := 1) (v := .int r_16) (C := R_Sc) (T := T_Sc) (N := 8) hx hb hu in_Sc hown hK hP 0 rfl rfl 4 (by decide) (hu _ hw_92) (fun _ h9 => h9) rfl d_Sc_setFirstThresholds_165 ?_
    refine vq_i (wr := []) (va_runV (As := [.int (((4 * (((jmin (g 0) 4095) + 128) / 256)) + 3) + (5 * (g 1))), .int r_16]) (rest := [.ref qg]) ⟨hx, hb, hml, hown, hts⟩ (c_thresholdOr l D sa H.size qg (mk8 (g 0) (g 1) (g 2) (g 3) r_16 (g 5) (g 6) (g 7)) (((4 * (((jmin (g 0) 4095) + 128) / 256)) + 3) + (5 * (g 1))) r_16) (cwV 2 hts (vg_V (fun w h => List.mem_cons_of_mem _ h) hw_77 hw_78 hw_1 hw_34 hw_79) rfl rfl rfl (by decide +kernel) ⟨Nat.le_of_ble_eq_true rfl, Nat.le_of_ble_eq_true rfl⟩) (vq_pV hE hK hP hD [0] [] rfl (by decide) rfl 1 0 rfl rfl rfl) rfl rfl hl.1 rfl (lv_room (Nat.le_of_ble_eq_true rfl)) d_Sc_setFirstThresholds_168 ⟨Nat.le_of_ble_eq_true rfl, Nat.le_of_ble_eq_true rfl⟩) hP hD hS hA [0] [] rfl rfl (by decide) (by decide) (fun r_18 u_18 H locs e_18 hP hD hS => ?_)
    have hP : va_P D vwCl [(qg, .inr (1, [.int (g 0), .int (g 1), .int (g 2), .int (g 3), .int r_16, .int (g 5), .int (g 6), .int (g 7)]))] H := hP
    have hD : va_D A [(qg, .inr (1, [.int (g 0), .int (g 1), .int (g 2), .int (g 3), .int r_16, .int (g 5), .int (g 6), .int (g 7)]))] := hD
    refine va_put (D := D) (ci := 1) (v := .int r_18) (ty := .int) (C := R_Sc) (T := T_Sc) (N := 8) hx hb hu in_Sc t_Sc t_Sc_ok n_Sc hown hK hP hD hS 0 rfl rfl 5 (by decide) (hu _ hw_94) (fun _ h9 => h9) rfl (by decide +kernel) rfl rfl (Nat.le_of_ble_eq_true rfl) d_Sc_setFirstThresholds_171 (fun H locs hP hD hS => ?_)
    have hP : va_P D vwCl [(qg, .inr (1, [.int (g 0), .int (g 1), .int (g 2), .int (g 3), .int r_16, .int r_18, .int (g 6), .int (g 7)]))] H := hP
    have hD : va_D A [(qg, .inr (1, [.int (g 0), .int (g 1), .int (g 2), .int (g 3), .int r_16, .int r_18, .int (g 6), .int (g 7)]))] := hD
    refine lv_aload_n hx hb d_Sc_setFirstThresholds_174 rfl (lv_at hl 4 rfl) ?_
    refine lv_aload_n hx hb d_Sc_setFirstThresholds_175 rfl (lv_at hl 4 rfl) ?_
    refine lv_iload_n hx hb d_Sc_setFirstThresholds_176 rfl (lv_at hl 0 rfl) ?_
    refine lv_aload_n hx hb d_Sc_setFirstThresholds_177 rfl (lv_at hl 4 rfl) ?_
    refine va_get (D := D) (ci := 1) (v := .int r_18) (C := R_Sc) (T := T_Sc) (N := 8) hx hb hu in_Sc hown hK hP 0 rfl rfl 5 (by decide) (hu _ hw_94) (fun _ h9 => h9) rfl d_Sc_setFirstThresholds_178 ?_
    refine vq_i (wr := []) (va_runV (As := [.int (((17 * (((jmin (g 0) 4095) + 128) / 256)) + 4) + (7 * (g 1))), .int r_18]) (rest := [.ref qg]) ⟨hx, hb, hml, hown, hts⟩ (c_thresholdOr l D sa H.size qg (mk8 (g 0) (g 1) (g 2) (g 3) r_16 r_18 (g 6) (g 7)) (((17 * (((jmin (g 0) 4095) + 128) / 256)) + 4) + (7 * (g 1))) r_18) (cwV 2 hts (vg_V (fun w h => List.mem_cons_of_mem _ h) hw_77 hw_78 hw_1 hw_34 hw_79) rfl rfl rfl (by decide +kernel) ⟨Nat.le_of_ble_eq_true rfl, Nat.le_of_ble_eq_true rfl⟩) (vq_pV hE hK hP hD [0] [] rfl (by decide) rfl 1 0 rfl rfl rfl) rfl rfl hl.1 rfl (lv_room (Nat.le_of_ble_eq_true rfl)) d_Sc_setFirstThresholds_181 ⟨Nat.le_of_ble_eq_true rfl, Nat.le_of_ble_eq_true rfl⟩) hP hD hS hA [0] [] rfl rfl (by decide) (by decide) (fun r_20 u_20 H locs e_20 hP hD hS => ?_)
    have hP : va_P D vwCl [(qg, .inr (1, [.int (g 0), .int (g 1), .int (g 2), .int (g 3), .int r_16, .int r_18, .int (g 6), .int (g 7)]))] H := hP
    have hD : va_D A [(qg, .inr (1, [.int (g 0), .int (g 1), .int (g 2), .int (g 3), .int r_16, .int r_18, .int (g 6), .int (g 7)]))] := hD
    refine va_put (D := D) (ci := 1) (v := .int r_20) (ty := .int) (C := R_Sc) (T := T_Sc) (N := 8) hx hb hu in_Sc t_Sc t_Sc_ok n_Sc hown hK hP hD hS 0 rfl rfl 6 (by decide) (hu _ hw_96) (fun _ h9 => h9) rfl (by decide +kernel) rfl rfl (Nat.le_of_ble_eq_true rfl) d_Sc_setFirstThresholds_184 (fun H locs hP hD hS => ?_)
    have hP : va_P D vwCl [(qg, .inr (1, [.int (g 0), .int (g 1), .int (g 2), .int (g 3), .int r_16, .int r_18, .int r_20, .int (g 7)]))] H := hP
    have hD : va_D A [(qg, .inr (1, [.int (g 0), .int (g 1), .int (g 2), .int (g 3), .int r_16, .int r_18, .int r_20, .int (g 7)]))] := hD
    have hP9 : va_P D vwCl ([(qg, k_Sc (mk8 (g 0) (g 1) (g 2) (g 3) r_16 r_18 r_20 (g 7)))]) H := hP.sub [0] rfl
    have hD9 : va_D A ([(qg, k_Sc (mk8 (g 0) (g 1) (g 2) (g 3) r_16 r_18 r_20 (g 7)))]) := hD.sub [0] (by decide) rfl
    exact W.vret hx hb hr (fun t ht hW => ⟨⟨(mk8 (g 0) (g 1) (g 2) (g 3) r_16 r_18 r_20 (g 7)), rfl, by rw [f_setFirstThresholds, if_neg c_1, e_16, f_setFirstThresholds_17, e_18, f_setFirstThresholds_19, e_20, f_setFirstThresholds_21], by rw [ht]; exact hP9, va_K.moved hW.alike (hK.sub [] rfl), hD9⟩, hS.F ht⟩) hS.2.2 d_Sc_setFirstThresholds_187
