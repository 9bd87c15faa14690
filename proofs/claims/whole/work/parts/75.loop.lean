theorem vq_out12 {x : Int32} (h0 : ¬ x = 0) (h1 : ¬ x = 1) (h2 : ¬ x = 2) (h3 : ¬ x = 3) (h4 : ¬ x = 4) (h5 : ¬ x = 5) (h6 : ¬ x = 6) (h7 : ¬ x = 7) (h8 : ¬ x = 8) (h9 : ¬ x = 9) (h10 : ¬ x = 10) (h11 : ¬ x = 11) : x.toInt < 0 ∨ 11 < x.toInt := by
  have a0 : ¬ x.toInt = 0 := fun h => h0 (Int32.toInt_inj.mp (h.trans (by decide)))
  have a1 : ¬ x.toInt = 1 := fun h => h1 (Int32.toInt_inj.mp (h.trans (by decide)))
  have a2 : ¬ x.toInt = 2 := fun h => h2 (Int32.toInt_inj.mp (h.trans (by decide)))
  have a3 : ¬ x.toInt = 3 := fun h => h3 (Int32.toInt_inj.mp (h.trans (by decide)))
  have a4 : ¬ x.toInt = 4 := fun h => h4 (Int32.toInt_inj.mp (h.trans (by decide)))
  have a5 : ¬ x.toInt = 5 := fun h => h5 (Int32.toInt_inj.mp (h.trans (by decide)))
  have a6 : ¬ x.toInt = 6 := fun h => h6 (Int32.toInt_inj.mp (h.trans (by decide)))
  have a7 : ¬ x.toInt = 7 := fun h => h7 (Int32.toInt_inj.mp (h.trans (by decide)))
  have a8 : ¬ x.toInt = 8 := fun h => h8 (Int32.toInt_inj.mp (h.trans (by decide)))
  have a9 : ¬ x.toInt = 9 := fun h => h9 (Int32.toInt_inj.mp (h.trans (by decide)))
  have a10 : ¬ x.toInt = 10 := fun h => h10 (Int32.toInt_inj.mp (h.trans (by decide)))
  have a11 : ¬ x.toInt = 11 := fun h => h11 (Int32.toInt_inj.mp (h.trans (by decide)))
  omega
theorem lw_end {L k : Nat} {x4 : Int32} (hL : L ≤ 2051) (hk : k ≤ 513) (ex4 : x4 = nI (3 + 4 * k)) (h : ¬ nI L - 4 < x4) : 3 + 4 * k + 4 ≤ L := by
  have e4 : (4 : Int32).toInt = 4 := by decide
  have eL := nI_toInt (n := L) (by omega)
  rw [ex4, Int32.lt_iff_toInt_lt, nI_toInt (by omega), ti_sub (by rw [e4, eL]; omega) (by rw [e4, eL]; omega), e4, eL] at h
  omega
set_option maxHeartbeats 4000000 in
set_option maxRecDepth 100000 in
theorem law_loop {p : Program} {e : Env} {s : State} {m : MethodId} {below : List Frame} {meth : Method} {c : Code} (l : Launch) {b L : Nat} {xs : Nat → Int32} (hL : L ≤ 2051) (C0 : lw_At p s m meth c b L xs) (htr : l.stackTraces = false) (D : va_G) (sa : Nat → Nat) (n : Nat) (hE : vq_E sa s) (hZ : vt_Z vt_ws (fun q : Nat => s.heap.size ≤ q) s) (hnc : va_Nc "java/lang/IllegalArgumentException" "java/lang/IllegalStateException" s) (qL : Nat) (qg : Nat) (qs1 : Nat) (qs2 : Nat) (qr1 : Nat) (cr1 : ClassId) (qc1 : Nat) (ad1 : Nat → Nat) (ca1 : Nat → ClassId) (qr2 : Nat) (cr2 : ClassId) (qc2 : Nat) (ad2 : Nat → Nat) (ca2 : Nat → ClassId) (qo : Nat) (co : ClassId) (qm : Nat) (am : Nat → Nat) (cm : Nat → ClassId) (hK : va_K D vwCl [(cr1, .int), (ca1 0, .int), (ca1 1, .int), (ca1 2, .int), (ca1 3, .int), (cr2, .int), (ca2 0, .int), (ca2 1, .int), (ca2 2, .int), (ca2 3, .int), (co, .long), (cm 0, .int), (cm 1, .int), (cm 2, .int), (cm 3, .int), (cm 4, .int), (cm 5, .boolean), (cm 6, .int), (cm 7, .int), (cm 8, .int), (cm 9, .int), (cm 10, .int)] s) : ∀ (j k : Nat) (x4 : Int32) (ql : Nat) (qp : Nat) (oS : Nat → Int32) (fo : Nat → Int64) (z : Nat → Int32) (g : Nat → Int32) (d1 : Nat → Int32) (rr1 : Nat → Int32) (x1 : Nat → Nat → Int32) (d2 : Nat → Int32) (rr2 : Nat → Int32) (x2 : Nat → Nat → Int32) (oL : Nat → Int32) (pm : Nat → Int32) (ym : Nat → Nat → Int32) (H : Heap) (locs : List Loc) (cells slots : Nat) (ls : Array Slot), k + j = 513 → x4 = nI (3 + 4 * k) → Rl (k) n z g d1 rr1 x1 d2 rr2 x2 oL pm ym → (cells ≤ 100 + k ∧ slots ≤ 300000 + 6 * k) → va_P D vwCl [(qL, k_Lp qg qs1 qs2 ql qp z), (qg, k_Sc g), (qs1, k_Si qc1 qg qr1 d1), (qr1, .inl (cr1, n, .inl rr1)), (qc1, k_Co qg ad1), (ad1 0, .inl (ca1 0, 367, .inl (x1 0))), (ad1 1, .inl (ca1 1, 367, .inl (x1 1))), (ad1 2, .inl (ca1 2, 367, .inl (x1 2))), (ad1 3, .inl (ca1 3, 367, .inl (x1 3))), (qs2, k_Si qc2 qg qr2 d2), (qr2, .inl (cr2, n, .inl rr2)), (qc2, k_Co qg ad2), (ad2 0, .inl (ca2 0, 367, .inl (x2 0))), (ad2 1, .inl (ca2 1, 367, .inl (x2 1))), (ad2 2, .inl (ca2 2, 367, .inl (x2 2))), (ad2 3, .inl (ca2 3, 367, .inl (x2 3))), (ql, k_Ou oL), (qp, k_Ou oS), (qo, .inl (co, 1, .inr (.inl fo))), (qm, k_Mo am pm), (am 0, .inl (cm 0, 131072, .inl (ym 0))), (am 1, .inl (cm 1, 131072, .inl (ym 1))), (am 2, .inl (cm 2, 2, .inl (ym 2))), (am 3, .inl (cm 3, 2, .inl (ym 3))), (am 4, .inl (cm 4, 2, .inl (ym 4))), (am 5, .inl (cm 5, 2, .inl (ym 5))), (am 6, .inl (cm 6, 734, .inl (ym 6))), (am 7, .inl (cm 7, 734, .inl (ym 7))), (am 8, .inl (cm 8, 734, .inl (ym 8))), (am 9, .inl (cm 9, 734, .inl (ym 9))), (am 10, .inl (cm 10, 5, .inl (ym 10)))] H → va_D (fun q : Nat => s.heap.size ≤ q) [(qL, k_Lp qg qs1 qs2 ql qp z), (qg, k_Sc g), (qs1, k_Si qc1 qg qr1 d1), (qr1, .inl (cr1, n, .inl rr1)), (qc1, k_Co qg ad1), (ad1 0, .inl (ca1 0, 367, .inl (x1 0))), (ad1 1, .inl (ca1 1, 367, .inl (x1 1))), (ad1 2, .inl (ca1 2, 367, .inl (x1 2))), (ad1 3, .inl (ca1 3, 367, .inl (x1 3))), (qs2, k_Si qc2 qg qr2 d2), (qr2, .inl (cr2, n, .inl rr2)), (qc2, k_Co qg ad2), (ad2 0, .inl (ca2 0, 367, .inl (x2 0))), (ad2 1, .inl (ca2 1, 367, .inl (x2 1))), (ad2 2, .inl (ca2 2, 367, .inl (x2 2))), (ad2 3, .inl (ca2 3, 367, .inl (x2 3))), (ql, k_Ou oL), (qp, k_Ou oS), (qo, .inl (co, 1, .inr (.inl fo))), (qm, k_Mo am pm), (am 0, .inl (cm 0, 131072, .inl (ym 0))), (am 1, .inl (cm 1, 131072, .inl (ym 1))), (am 2, .inl (cm 2, 2, .inl (ym 2))), (am 3, .inl (cm 3, 2, .inl (ym 3))), (am 4, .inl (cm 4, 2, .inl (ym 4))), (am 5, .inl (cm 5, 2, .inl (ym 5))), (am 6, .inl (cm 6, 734, .inl (ym 6))), (am 7, .inl (cm 7, 734, .inl (ym 7))), (am 8, .inl (cm 8, 734, .inl (ym 8))), (am 9, .inl (cm 9, 734, .inl (ym 9))), (am 10, .inl (cm 10, 5, .inl (ym 10)))] → va_S (fun q : Nat => s.heap.size ≤ q) s.heap H locs → lv_has ls 7 [(0, .ref b), (1, .ref qL), (2, .ref qm), (3, .ref qo), (4, .int x4)] → W p l e room_1 s m #[Value.ref b] below meth c H locs cells slots (lw_Z below #[Value.ref b] s) (F0 m 53 ls []) := by
  obtain ⟨hx, hb, hr, hml, hown, hts, hX, hbl, hlocks, hgv⟩ := id C0
  have hown : s.vm.findClass R_La = some m.cls := hown
  have hu : ∀ w9 ∈ vU, Cond.before w9 #[Value.ref b] s = true := fun w9 h => hts w9 (vU_tbl w9 h)
  have hA : ∀ q : Nat, s.heap.size ≤ q → (fun q : Nat => s.heap.size ≤ q) q := fun _ h => h
  have hbA : ¬ (fun q : Nat => s.heap.size ≤ q) b := Nat.not_le.mpr hbl
  intro j
  induction j with
  | zero =>
    intro k x4 ql qp oS fo z g d1 rr1 x1 d2 rr2 x2 oL pm ym H locs cells slots ls hj ex4 hR hcs hP hD hS hl
    refine lv_iload hx hb d_La_law_53 (lv_at hl 4 rfl) ?_
    refine lv_aload_n hx hb d_La_law_55 rfl (lv_at hl 0 rfl) ?_
    refine va_slen hx hb hX hbl hbA hS d_La_law_56 ?_
    refine lv_iconst (v := 4) hx hb d_La_law_57 (by decide) ?_
    refine lv_isub hx hb d_La_law_58 ?_
    refine lv_icmp_gt (tgt := 724) hx hb d_La_law_59 (by decide) (fun c_1 => ?_) (fun c_1 => absurd (lw_end hL (by omega) ex4 c_1) (by omega))
    refine lv_iconst (v := 1) hx hb d_La_law_724 (by decide) ?_
    refine va_forget (fun q h => hS.2.2 q h) ?_
    refine W.widen (k := 601024) (n := 7293000) (by omega) (by omega) ?_
    exact lw_ret hx hb hr hlocks d_La_law_725
  | succ j ih =>
    intro k x4 ql qp oS fo z g d1 rr1 x1 d2 rr2 x2 oL pm ym H locs cells slots ls hj ex4 hR hcs hP hD hS hl
    refine lv_iload hx hb d_La_law_53 (lv_at hl 4 rfl) ?_
    refine lv_aload_n hx hb d_La_law_55 rfl (lv_at hl 0 rfl) ?_
    refine va_slen hx hb hX hbl hbA hS d_La_law_56 ?_
    refine lv_iconst (v := 4) hx hb d_La_law_57 (by decide) ?_
    refine lv_isub hx hb d_La_law_58 ?_
    refine lv_icmp_gt (tgt := 724) hx hb d_La_law_59 (by decide) (fun c_1 => ?_) (fun c_1 => ?_)
    · refine lv_iconst (v := 1) hx hb d_La_law_724 (by decide) ?_
      refine va_forget (fun q h => hS.2.2 q h) ?_
      refine W.widen (k := 601024) (n := 7293000) (by omega) (by omega) ?_
      exact lw_ret hx hb hr hlocks d_La_law_725
    · have hi : 3 + 4 * k + 4 ≤ L := lw_end hL (by omega) ex4 c_1
      have hk : k < 512 := by omega
      have nxt : ∀ (ql : Nat) (qp : Nat) (oS : Nat → Int32) (fo : Nat → Int64) (z : Nat → Int32) (g : Nat → Int32) (d1 : Nat → Int32) (rr1 : Nat → Int32) (x1 : Nat → Nat → Int32) (d2 : Nat → Int32) (rr2 : Nat → Int32) (x2 : Nat → Nat → Int32) (oL : Nat → Int32) (pm : Nat → Int32) (ym : Nat → Nat → Int32) (H : Heap) (locs : List Loc) (cells slots : Nat) (ls : Array Slot), Rl (k + 1) n z g d1 rr1 x1 d2 rr2 x2 oL pm ym → (cells ≤ 100 + (k + 1) ∧ slots ≤ 300000 + 6 * (k + 1)) → va_P D vwCl [(qL, k_Lp qg qs1 qs2 ql qp z), (qg, k_Sc g), (qs1, k_Si qc1 qg qr1 d1), (qr1, .inl (cr1, n, .inl rr1)), (qc1, k_Co qg ad1), (ad1 0, .inl (ca1 0, 367, .inl (x1 0))), (ad1 1, .inl (ca1 1, 367, .inl (x1 1))), (ad1 2, .inl (ca1 2, 367, .inl (x1 2))), (ad1 3, .inl (ca1 3, 367, .inl (x1 3))), (qs2, k_Si qc2 qg qr2 d2), (qr2, .inl (cr2, n, .inl rr2)), (qc2, k_Co qg ad2), (ad2 0, .inl (ca2 0, 367, .inl (x2 0))), (ad2 1, .inl (ca2 1, 367, .inl (x2 1))), (ad2 2, .inl (ca2 2, 367, .inl (x2 2))), (ad2 3, .inl (ca2 3, 367, .inl (x2 3))), (ql, k_Ou oL), (qp, k_Ou oS), (qo, .inl (co, 1, .inr (.inl fo))), (qm, k_Mo am pm), (am 0, .inl (cm 0, 131072, .inl (ym 0))), (am 1, .inl (cm 1, 131072, .inl (ym 1))), (am 2, .inl (cm 2, 2, .inl (ym 2))), (am 3, .inl (cm 3, 2, .inl (ym 3))), (am 4, .inl (cm 4, 2, .inl (ym 4))), (am 5, .inl (cm 5, 2, .inl (ym 5))), (am 6, .inl (cm 6, 734, .inl (ym 6))), (am 7, .inl (cm 7, 734, .inl (ym 7))), (am 8, .inl (cm 8, 734, .inl (ym 8))), (am 9, .inl (cm 9, 734, .inl (ym 9))), (am 10, .inl (cm 10, 5, .inl (ym 10)))] H → va_D (fun q : Nat => s.heap.size ≤ q) [(qL, k_Lp qg qs1 qs2 ql qp z), (qg, k_Sc g), (qs1, k_Si qc1 qg qr1 d1), (qr1, .inl (cr1, n, .inl rr1)), (qc1, k_Co qg ad1), (ad1 0, .inl (ca1 0, 367, .inl (x1 0))), (ad1 1, .inl (ca1 1, 367, .inl (x1 1))), (ad1 2, .inl (ca1 2, 367, .inl (x1 2))), (ad1 3, .inl (ca1 3, 367, .inl (x1 3))), (qs2, k_Si qc2 qg qr2 d2), (qr2, .inl (cr2, n, .inl rr2)), (qc2, k_Co qg ad2), (ad2 0, .inl (ca2 0, 367, .inl (x2 0))), (ad2 1, .inl (ca2 1, 367, .inl (x2 1))), (ad2 2, .inl (ca2 2, 367, .inl (x2 2))), (ad2 3, .inl (ca2 3, 367, .inl (x2 3))), (ql, k_Ou oL), (qp, k_Ou oS), (qo, .inl (co, 1, .inr (.inl fo))), (qm, k_Mo am pm), (am 0, .inl (cm 0, 131072, .inl (ym 0))), (am 1, .inl (cm 1, 131072, .inl (ym 1))), (am 2, .inl (cm 2, 2, .inl (ym 2))), (am 3, .inl (cm 3, 2, .inl (ym 3))), (am 4, .inl (cm 4, 2, .inl (ym 4))), (am 5, .inl (cm 5, 2, .inl (ym 5))), (am 6, .inl (cm 6, 734, .inl (ym 6))), (am 7, .inl (cm 7, 734, .inl (ym 7))), (am 8, .inl (cm 8, 734, .inl (ym 8))), (am 9, .inl (cm 9, 734, .inl (ym 9))), (am 10, .inl (cm 10, 5, .inl (ym 10)))] → va_S (fun q : Nat => s.heap.size ≤ q) s.heap H locs → lv_has ls 7 [(0, .ref b), (1, .ref qL), (2, .ref qm), (3, .ref qo), (4, .int x4)] → W p l e room_1 s m #[Value.ref b] below meth c H locs cells slots (lw_Z below #[Value.ref b] s) (F0 m 718 ls []) := by
        intro ql qp oS fo z g d1 rr1 x1 d2 rr2 x2 oL pm ym H locs cells slots ls hR hcs hP hD hS hl
        refine lv_iinc (v := x4 + 4) (lv' := [(4, .int (x4 + 4)), (0, .ref b), (1, .ref qL), (2, .ref qm), (3, .ref qo)]) hx hb d_La_law_718 hl (k := 4) rfl rfl (by decide) rfl (fun ls hl => ?_)
        refine lv_goto (tgt := 53) hx hb d_La_law_721 (by decide) ?_
        exact ih (k + 1) (x4 + 4) ql qp oS fo z g d1 rr1 x1 d2 rr2 x2 oL pm ym H locs cells slots ls (by omega) (by rw [ex4, show nI (3 + 4 * k) + 4 = nI (3 + 4 * k + 4) from nI_add _ 4]; exact congrArg nI (by omega)) hR hcs hP hD hS (lv_sub hl [1, 2, 3, 4, 0] rfl)
      refine lv_aload_n hx hb d_La_law_62 rfl (lv_at hl 0 rfl) ?_
      refine lv_iload hx hb d_La_law_63 (lv_at hl 4 rfl) ?_
      refine va_sld hx hb hX hbl hbA hS (lw_ix0 ex4 hi hL) d_La_law_65 ?_
      refine lv_bipush (v := 15) hx hb d_La_law_66 (by decide) ?_
      refine lv_iand hx hb d_La_law_68 ?_
      generalize xs x4.toNatClampNeg &&& 15 = sw
      rcases Classical.em (sw = 0) with h0 | h0
      · refine lv_tableIn (off := 63) (tgt := 132) hx hb d_La_law_69 (by rw [h0]; decide) (by rw [h0]; decide) (by rw [h0]; rfl) (by decide) ?_
        exact law_c0 l hL C0 htr D sa n hE hZ hnc qL qg qs1 qs2 qr1 cr1 qc1 ad1 ca1 qr2 cr2 qc2 ad2 ca2 qo co qm am cm hK hi ex4 hk ql qp oS fo z g d1 rr1 x1 d2 rr2 x2 oL pm ym hR hcs hP hD hS hl nxt
      rcases Classical.em (sw = 1) with h1 | h1
      · refine lv_tableIn (off := 150) (tgt := 219) hx hb d_La_law_69 (by rw [h1]; decide) (by rw [h1]; decide) (by rw [h1]; rfl) (by decide) ?_
        exact law_c1 l hL C0 htr D sa n hE hZ hnc qL qg qs1 qs2 qr1 cr1 qc1 ad1 ca1 qr2 cr2 qc2 ad2 ca2 qo co qm am cm hK hi ex4 hk ql qp oS fo z g d1 rr1 x1 d2 rr2 x2 oL pm ym hR hcs hP hD hS hl nxt
      rcases Classical.em (sw = 2) with h2 | h2
      · refine lv_tableIn (off := 213) (tgt := 282) hx hb d_La_law_69 (by rw [h2]; decide) (by rw [h2]; decide) (by rw [h2]; rfl) (by decide) ?_
        exact law_c2 l hL C0 htr D sa n hE hZ hnc qL qg qs1 qs2 qr1 cr1 qc1 ad1 ca1 qr2 cr2 qc2 ad2 ca2 qo co qm am cm hK hi ex4 hk ql qp oS fo z g d1 rr1 x1 d2 rr2 x2 oL pm ym hR hcs hP hD hS hl nxt
      rcases Classical.em (sw = 3) with h3 | h3
      · refine lv_tableIn (off := 281) (tgt := 350) hx hb d_La_law_69 (by rw [h3]; decide) (by rw [h3]; decide) (by rw [h3]; rfl) (by decide) ?_
        exact law_c3 l hL C0 htr D sa n hE hZ hnc qL qg qs1 qs2 qr1 cr1 qc1 ad1 ca1 qr2 cr2 qc2 ad2 ca2 qo co qm am cm hK hi ex4 hk ql qp oS fo z g d1 rr1 x1 d2 rr2 x2 oL pm ym hR hcs hP hD hS hl nxt
      rcases Classical.em (sw = 4) with h4 | h4
      · refine lv_tableIn (off := 349) (tgt := 418) hx hb d_La_law_69 (by rw [h4]; decide) (by rw [h4]; decide) (by rw [h4]; rfl) (by decide) ?_
        exact law_c4 l hL C0 htr D sa n hE hZ hnc qL qg qs1 qs2 qr1 cr1 qc1 ad1 ca1 qr2 cr2 qc2 ad2 ca2 qo co qm am cm hK hi ex4 hk ql qp oS fo z g d1 rr1 x1 d2 rr2 x2 oL pm ym hR hcs hP hD hS hl nxt
      rcases Classical.em (sw = 5) with h5 | h5
      · refine lv_tableIn (off := 362) (tgt := 431) hx hb d_La_law_69 (by rw [h5]; decide) (by rw [h5]; decide) (by rw [h5]; rfl) (by decide) ?_
        exact law_c5 l hL C0 htr D sa n hE hZ hnc qL qg qs1 qs2 qr1 cr1 qc1 ad1 ca1 qr2 cr2 qc2 ad2 ca2 qo co qm am cm hK hi ex4 hk ql qp oS fo z g d1 rr1 x1 d2 rr2 x2 oL pm ym hR hcs hP hD hS hl nxt
      rcases Classical.em (sw = 6) with h6 | h6
      · refine lv_tableIn (off := 375) (tgt := 444) hx hb d_La_law_69 (by rw [h6]; decide) (by rw [h6]; decide) (by rw [h6]; rfl) (by decide) ?_
        exact law_c6 l hL C0 htr D sa n hE hZ hnc qL qg qs1 qs2 qr1 cr1 qc1 ad1 ca1 qr2 cr2 qc2 ad2 ca2 qo co qm am cm hK hi ex4 hk ql qp oS fo z g d1 rr1 x1 d2 rr2 x2 oL pm ym hR hcs hP hD hS hl nxt
      rcases Classical.em (sw = 7) with h7 | h7
      · refine lv_tableIn (off := 388) (tgt := 457) hx hb d_La_law_69 (by rw [h7]; decide) (by rw [h7]; decide) (by rw [h7]; rfl) (by decide) ?_
        exact law_c7 l hL C0 htr D sa n hE hZ hnc qL qg qs1 qs2 qr1 cr1 qc1 ad1 ca1 qr2 cr2 qc2 ad2 ca2 qo co qm am cm hK hi ex4 hk ql qp oS fo z g d1 rr1 x1 d2 rr2 x2 oL pm ym hR hcs hP hD hS hl nxt
      rcases Classical.em (sw = 8) with h8 | h8
      · refine lv_tableIn (off := 444) (tgt := 513) hx hb d_La_law_69 (by rw [h8]; decide) (by rw [h8]; decide) (by rw [h8]; rfl) (by decide) ?_
        exact law_c8 l hL C0 htr D sa n hE hZ hnc qL qg qs1 qs2 qr1 cr1 qc1 ad1 ca1 qr2 cr2 qc2 ad2 ca2 qo co qm am cm hK hi ex4 hk ql qp oS fo z g d1 rr1 x1 d2 rr2 x2 oL pm ym hR hcs hP hD hS hl nxt
      rcases Classical.em (sw = 9) with h9 | h9
      · refine lv_tableIn (off := 524) (tgt := 593) hx hb d_La_law_69 (by rw [h9]; decide) (by rw [h9]; decide) (by rw [h9]; rfl) (by decide) ?_
        exact law_c9 l hL C0 htr D sa n hE hZ hnc qL qg qs1 qs2 qr1 cr1 qc1 ad1 ca1 qr2 cr2 qc2 ad2 ca2 qo co qm am cm hK hi ex4 hk ql qp oS fo z g d1 rr1 x1 d2 rr2 x2 oL pm ym hR hcs hP hD hS hl nxt
      rcases Classical.em (sw = 10) with h10 | h10
      · refine lv_tableIn (off := 537) (tgt := 606) hx hb d_La_law_69 (by rw [h10]; decide) (by rw [h10]; decide) (by rw [h10]; rfl) (by decide) ?_
        exact law_c10 l hL C0 htr D sa n hE hZ hnc qL qg qs1 qs2 qr1 cr1 qc1 ad1 ca1 qr2 cr2 qc2 ad2 ca2 qo co qm am cm hK hi ex4 hk ql qp oS fo z g d1 rr1 x1 d2 rr2 x2 oL pm ym hR hcs hP hD hS hl nxt
      rcases Classical.em (sw = 11) with h11 | h11
      · refine lv_tableIn (off := 593) (tgt := 662) hx hb d_La_law_69 (by rw [h11]; decide) (by rw [h11]; decide) (by rw [h11]; rfl) (by decide) ?_
        exact law_c11 l hL C0 htr D sa n hE hZ hnc qL qg qs1 qs2 qr1 cr1 qc1 ad1 ca1 qr2 cr2 qc2 ad2 ca2 qo co qm am cm hK hi ex4 hk ql qp oS fo z g d1 rr1 x1 d2 rr2 x2 oL pm ym hR hcs hP hD hS hl nxt
      refine lv_tableOut (tgt := 718) hx hb d_La_law_69 (vq_out12 h0 h1 h2 h3 h4 h5 h6 h7 h8 h9 h10 h11) (by decide) ?_
      exact nxt ql qp oS fo z g d1 rr1 x1 d2 rr2 x2 oL pm ym H locs cells slots ls (R_skip hR) ⟨by omega, by omega⟩ hP hD hS hl
