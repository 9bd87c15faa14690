theorem cl_0 : (0 : Int32).toNatClampNeg = 0 := by decide
theorem cl_1 : (1 : Int32).toNatClampNeg = 1 := by decide
theorem cl_65536 : (65536 : Int32).toNatClampNeg = 65536 := by decide
theorem ti_65536 : (65536 : Int32).toInt = 65536 := by decide
theorem pu_cpi {kk : Int32} {s : Nat} {c : Int32} (hc : c.toInt = 65536 * s) (hs : s ≤ 1) (h0 : 0 ≤ kk.toInt) (h1 : kk.toInt < 65536) : (c + kk).toNatClampNeg = 65536 * s + kk.toInt.toNat := by
  show (c + kk).toInt.toNat = _
  rw [ti_add (by omega) (by omega)]; omega
theorem pu_kk1 {kk : Int32} (h0 : 0 ≤ kk.toInt) (h1 : kk.toInt < 65536) : (kk + 1).toInt = kk.toInt + 1 := by
  rw [ti_add (by rw [ti_1]; omega) (by rw [ti_1]; omega), ti_1]
theorem pu_cps {a b c : Nat → Int32} {s i w : Nat} (hi : i < w) (hb : ∀ j : Nat, b j = if 65536 * s + (i + 1) ≤ j ∧ j < 65536 * s + w then a j else upd c (65536 * s + i) (a (65536 * s + i)) j) (j : Nat) :
    b j = if 65536 * s + i ≤ j ∧ j < 65536 * s + w then a j else c j := by
  rw [hb j]
  by_cases e : j = 65536 * s + i
  · subst e
    rw [if_neg (by omega), if_pos (by omega), upd_at]
  · rw [upd_ne e]
    by_cases q : 65536 * s + (i + 1) ≤ j ∧ j < 65536 * s + w
    · rw [if_pos q, if_pos (by omega)]
    · rw [if_neg q, if_neg (by omega)]
theorem pu_e6 {pm : Nat → Int32} {ym : Nat → Nat → Int32} (hw : (pm 1).toInt ≤ 65536) : ∀ (fuel : Nat) (kk : Int32) (ab : Nat → Int32), 0 ≤ kk.toInt → kk.toInt ≤ (pm 1).toInt → (pm 1).toInt - kk.toInt < fuel →
    ∃ ab' : Nat → Int32, fl_m_endRow_6 fuel pm ym kk ab = (1, (mk22 0 (pm 1) (pm 2) (pm 3) (pm 4) (pm 5) (pm 6) (pm 7) (pm 8) (pm 9) (pm 10) (pm 11) (pm 12) (pm 13) (pm 14) (pm 15) (pm 16) (pm 17) (pm 18) (pm 19) (pm 20) (pm 21)), (mky (ym 0) ab' (upd (ym 2) 1 (ym 1 65536)) (upd (ym 3) 1 0) (upd (ym 4) 1 (ym 4 1 + 1)) (upd (ym 5) 1 (vp_nar .boolean 0)) (ym 6) (ym 7) (ym 8) (ym 9) (ym 10))) ∧
      ∀ j : Nat, ab' j = if 65536 * 1 + kk.toInt.toNat ≤ j ∧ j < 65536 * 1 + (pm 1).toInt.toNat then ym 0 j else ab j
  | 0, kk, ab, h0, h1, h2 => absurd h2 (by omega)
  | fuel + 1, kk, ab, h0, h1, h2 => by
    unfold fl_m_endRow_6
    by_cases c : pm 1 ≤ kk
    · rw [if_pos c, cl_1, cl_65536]
      refine ⟨ab, rfl, fun j => ?_⟩
      rw [pu_le] at c
      rw [if_neg (by omega)]
    · rw [if_neg c]
      rw [pu_le] at c
      have hk1 := pu_kk1 (kk := kk) h0 (by omega)
      have hix := pu_cpi (kk := kk) (s := 1) (c := 65536) (by rw [ti_65536]; rfl) (by omega) h0 (by omega)
      obtain ⟨ab', hE, hA⟩ := pu_e6 (pm := pm) (ym := ym) hw fuel (kk + 1) (upd ab (65536 + kk).toNatClampNeg (ym 0 (65536 + kk).toNatClampNeg)) (by omega) (by omega) (by omega)
      refine ⟨ab', hE, pu_cps (by omega) fun j => ?_⟩
      rw [hA j, hk1, hix]
      rw [show (kk.toInt + 1).toNat = kk.toInt.toNat + 1 from by omega]
theorem pu_e14 {pm : Nat → Int32} {ym : Nat → Nat → Int32} {k9 : Int32} {a9 : Nat → Int32} (hw : (pm 1).toInt ≤ 65536) : ∀ (fuel : Nat) (kk : Int32) (ab : Nat → Int32), 0 ≤ kk.toInt → kk.toInt ≤ (pm 1).toInt → (pm 1).toInt - kk.toInt < fuel →
    ∃ ab' : Nat → Int32, fl_m_endRow_14 fuel pm ym k9 a9 kk ab = (1, (mk22 0 (pm 1) (pm 2) (pm 3) (pm 4) (pm 5) (pm 6) (pm 7) (pm 8) (pm 9) (pm 10) (pm 11) (pm 12) (pm 13) (pm 14) (pm 15) (pm 16) (pm 17) (pm 18) (pm 19) (pm 20) (pm 21)), (mky (ym 0) ab' (upd (upd (ym 2) 0 (ym 1 0)) 1 (a9 65536)) (upd (upd (ym 3) 0 0) 1 0) (upd (upd (ym 4) 0 (ym 4 0 + 1)) 1 ((upd (ym 4) 0 (ym 4 0 + 1)) 1 + 1)) (upd (upd (ym 5) 0 (vp_nar .boolean 0)) 1 (vp_nar .boolean 0)) (ym 6) (ym 7) (ym 8) (ym 9) (ym 10))) ∧
      ∀ j : Nat, ab' j = if 65536 * 1 + kk.toInt.toNat ≤ j ∧ j < 65536 * 1 + (pm 1).toInt.toNat then ym 0 j else ab j
  | 0, kk, ab, h0, h1, h2 => absurd h2 (by omega)
  | fuel + 1, kk, ab, h0, h1, h2 => by
    unfold fl_m_endRow_14
    by_cases c : pm 1 ≤ kk
    · rw [if_pos c, cl_1, cl_65536, cl_0]
      refine ⟨ab, rfl, fun j => ?_⟩
      rw [pu_le] at c
      rw [if_neg (by omega)]
    · rw [if_neg c]
      rw [pu_le] at c
      have hk1 := pu_kk1 (kk := kk) h0 (by omega)
      have hix := pu_cpi (kk := kk) (s := 1) (c := 65536) (by rw [ti_65536]; rfl) (by omega) h0 (by omega)
      obtain ⟨ab', hE, hA⟩ := pu_e14 (pm := pm) (ym := ym) (k9 := k9) (a9 := a9) hw fuel (kk + 1) (upd ab (65536 + kk).toNatClampNeg (ym 0 (65536 + kk).toNatClampNeg)) (by omega) (by omega) (by omega)
      refine ⟨ab', hE, pu_cps (by omega) fun j => ?_⟩
      rw [hA j, hk1, hix]
      rw [show (kk.toInt + 1).toNat = kk.toInt.toNat + 1 from by omega]
theorem pu_e9 {pm : Nat → Int32} {ym : Nat → Nat → Int32} (hw : (pm 1).toInt ≤ 65536) : ∀ (fuel : Nat) (kk : Int32) (ab : Nat → Int32), 0 ≤ kk.toInt → kk.toInt ≤ (pm 1).toInt → (pm 1).toInt - kk.toInt < fuel →
    ∃ (k9 : Int32) (ab' : Nat → Int32), fl_m_endRow_9 fuel pm ym kk ab = (if (upd (ym 3) 0 0) 1 = pm 1 then fl_m_endRow_14 ((pm 1).toInt.toNat + 1) pm ym k9 ab' 0 ab' else (1, (mk22 0 (pm 1) (pm 2) (pm 3) (pm 4) (pm 5) (pm 6) (pm 7) (pm 8) (pm 9) (pm 10) (pm 11) (pm 12) (pm 13) (pm 14) (pm 15) (pm 16) (pm 17) (pm 18) (pm 19) (pm 20) (pm 21)), (mky (ym 0) ab' (upd (ym 2) 0 (ym 1 0)) (upd (ym 3) 0 0) (upd (ym 4) 0 (ym 4 0 + 1)) (upd (ym 5) 0 (vp_nar .boolean 0)) (ym 6) (ym 7) (ym 8) (ym 9) (ym 10)))) ∧
      ∀ j : Nat, ab' j = if 65536 * 0 + kk.toInt.toNat ≤ j ∧ j < 65536 * 0 + (pm 1).toInt.toNat then ym 0 j else ab j
  | 0, kk, ab, h0, h1, h2 => absurd h2 (by omega)
  | fuel + 1, kk, ab, h0, h1, h2 => by
    unfold fl_m_endRow_9
    by_cases c : pm 1 ≤ kk
    · rw [if_pos c, cl_1, cl_0]
      refine ⟨kk, ab, rfl, fun j => ?_⟩
      rw [pu_le] at c
      rw [if_neg (by omega)]
    · rw [if_neg c]
      rw [pu_le] at c
      have hk1 := pu_kk1 (kk := kk) h0 (by omega)
      have hix := pu_cpi (kk := kk) (s := 0) (c := 0) (by rw [ti_0]; rfl) (by omega) h0 (by omega)
      obtain ⟨k9, ab', hE, hA⟩ := pu_e9 (pm := pm) (ym := ym) hw fuel (kk + 1) (upd ab (0 + kk).toNatClampNeg (ym 0 (0 + kk).toNatClampNeg)) (by omega) (by omega) (by omega)
      refine ⟨k9, ab', hE, pu_cps (by omega) fun j => ?_⟩
      rw [hA j, hk1, hix]
      rw [show (kk.toInt + 1).toNat = kk.toInt.toNat + 1 from by omega]
theorem pu_nr {s k n : Nat} {mx wd : Int32} {d rr : Nat → Int32} {ym Y : Nat → Nat → Int32} (h : RS s k n mx wd d rr ym) (hW : RW n wd) (hk : k < 512) (hp : d 1 = wd)
    (y0 : Y 0 = ym 0) (y1 : ∀ j : Nat, j < 65536 → Y 1 (65536 * s + j) = if j < wd.toInt.toNat then ym 0 (65536 * s + j) else ym 1 (65536 * s + j)) (y2 : Y 2 s = ym 1 (65536 * s)) (y3 : Y 3 s = 0) (y4 : Y 4 s = ym 4 s + 1) (y5 : Y 5 s = 0) :
    RS s (k + 1) n mx wd (mk6 (d 0) 0 (d 2 + 1) 0 (d 5) (d 5)) rr Y := by
  obtain ⟨⟨a0, a1, a2, a3, a3'⟩, ⟨b1, b2, b3⟩, b4, c4, c5, cr, cz, m1, m0, m2⟩ := h
  obtain ⟨w1, w2, w3, w4, w5, w6⟩ := hW
  rw [hp] at b1 b2 b3
  have hn : (n : Int) = wd.toInt := w5 (by omega)
  have hne : d 1 ≠ 0 := by rw [hp]; intro e; rw [e, ti_0] at w1; omega
  have hcl : wd.toNatClampNeg = wd.toInt.toNat := rfl
  have e2 : (d 2 + 1).toInt = (d 2).toInt + 1 := by rw [ti_add (by rw [ti_1]; omega) (by rw [ti_1]; omega), ti_1]
  refine ⟨⟨a0, ?_, ?_, ?_, Or.inl rfl⟩, ⟨?_, ?_, ?_⟩, ⟨?_, ?_⟩, ?_, ?_, ?_, ?_, ?_, ?_, ?_⟩
  · exact y3.symm
  · show d 2 + 1 = Y 4 s
    rw [y4, a2]
  · exact y5.symm
  · show 0 ≤ (0 : Int32).toInt
    rw [ti_0]; omega
  · show (0 : Int32).toInt ≤ ((k + 1 : Nat) : Int)
    rw [ti_0]; omega
  · show (0 : Int32).toInt ≤ wd.toInt
    rw [ti_0]; omega
  · show 0 ≤ (d 2 + 1).toInt
    omega
  · show (d 2 + 1).toInt ≤ ((k + 1 : Nat) : Int)
    omega
  · show d 5 = if (0 : Int32) = 0 then Y 2 s else _
    rw [if_pos rfl, y2, c5 hne]
  · intro q; exact absurd rfl q
  · intro j hj
    show rr j = if j < (0 : Int32).toNatClampNeg then _ else Y 1 (65536 * s + j)
    rw [cl_0, if_neg (by omega), y1 j (by omega), if_pos (by omega), cr j hj, hp, hcl, if_pos (by omega)]
  · intro j h1 h2
    rw [y1 j h2, if_neg (by omega)]; exact cz j h1 h2
  · intro j hj
    rw [y1 j hj]; split
    · exact m0 j hj
    · exact m1 j hj
  · rw [y0]; exact m0
  · rw [y2]; exact m1 0 (by omega)
theorem pu_nro {s k n : Nat} {mx wd : Int32} {d rr : Nat → Int32} {ym Y : Nat → Nat → Int32} (h : RS s k n mx wd d rr ym) (hW : RW n wd)
    (y0 : Y 0 = ym 0) (y1 : ∀ j : Nat, j < 65536 → Y 1 (65536 * s + j) = ym 1 (65536 * s + j)) (y2 : Y 2 s = ym 2 s) (y3 : Y 3 s = ym 3 s) (y4 : Y 4 s = ym 4 s) (y5 : Y 5 s = ym 5 s) :
    RS s (k + 1) n mx wd d rr Y := by
  obtain ⟨⟨a0, a1, a2, a3, a3'⟩, ⟨b1, b2, b3⟩, b4, c4, c5, cr, cz, m1, m0, m2⟩ := h
  obtain ⟨w1, w2, w3, w4, w5, w6⟩ := hW
  have hcl : (d 1).toNatClampNeg = (d 1).toInt.toNat := rfl
  refine ⟨⟨a0, by rw [y3, a1], by rw [y4, a2], by rw [y5, a3], a3'⟩, ⟨b1, by omega, b3⟩, ⟨b4.1, by omega⟩, ?_, ?_, ?_, ?_, ?_, ?_, ?_⟩
  · rw [c4, y2]
    by_cases c : d 1 = 0
    · rw [if_pos c, if_pos c]
    · rw [if_neg c, if_neg c, hcl]
      rw [pu_eq, ti_0] at c
      rw [show 65536 * s + (d 1).toInt.toNat - 1 = 65536 * s + ((d 1).toInt.toNat - 1) from by omega, y1 _ (by omega)]
  · intro q
    rw [c5 q]; exact (y1 0 (by omega)).symm
  · intro j hj
    rw [cr j hj, y0, y1 j (by omega)]
  · intro j h1 h2; rw [y1 j h2]; exact cz j h1 h2
  · intro j hj; rw [y1 j hj]; exact m1 j hj
  · rw [y0]; exact m0
  · rw [y2]; exact m2
theorem pu_go {s k n : Nat} {mx wd : Int32} {d rr : Nat → Int32} {ym : Nat → Nat → Int32} (h : RS s k n mx wd d rr ym) : (ym 3 s = wd → d 1 = wd ∧ f_goToNextRow n d rr = (1, mk6 (d 0) 0 (d 2 + 1) 0 (d 5) (d 5))) ∧ (¬ ym 3 s = wd → f_goToNextRow n d rr = (0, d)) := by
  obtain ⟨⟨a0, a1, a2, a3, a3'⟩, ⟨b1, b2, b3⟩, _⟩ := h
  unfold f_goToNextRow
  rw [a0, ← a1]
  refine ⟨fun e => ⟨e, ?_⟩, fun e => ?_⟩
  · rw [if_pos (by rw [e, pu_le]; omega)]
  · rw [if_neg]
    rw [pu_le]; rw [pu_eq] at e; omega
theorem pu_nar0 : vp_nar .boolean 0 = 0 := rfl
theorem pu_ER {k n : Nat} {z g d rr : Nat → Int32} {x : Nat → Nat → Int32} {d' rr' : Nat → Int32} {x' : Nat → Nat → Int32} {oL oS pm : Nat → Int32} {ym : Nat → Nat → Int32}
    (hR : RR 0 1 k n z g d rr x d' rr' x' oL pm ym) (hk : k < 512) :
    ∃ (b : Int32) (D D' pm' : Nat → Int32) (ym' : Nat → Nat → Int32), f_m_endRow pm ym = (b, pm', ym') ∧ f_endRow n n z g d rr x d' rr' x' oL oS = (b, D, D') ∧ RR 0 1 (k + 1) n z g D rr x D' rr' x' oL pm' ym' := by
  have hR0 := hR
  obtain ⟨h1, h2, h3, h4, h5, h6, h7, h8, h9, ⟨ha, ha'⟩, hb⟩ := hR0
  have hW := h3
  obtain ⟨w1, w2, w3, w4, w5, w6⟩ := hW
  have hG1 := pu_go h4
  have hG2 := pu_go h5
  have hS1 := h4.2.2.1
  have hS2 := h5.2.2.1
  have hq1 := h4.1.2.2.1
  have hq2 := h5.1.2.2.1
  have hb1 := h4.2.1
  have hb2 := h5.2.1
  have hr1 := h4.1.2.1
  have hr2 := h5.1.2.1
  have hz : z 1 = 0 → ym 3 0 ≠ pm 1 ∧ ym 3 1 ≠ pm 1 := fun q => by
    obtain ⟨⟨e1, e2, e3, e4⟩, _⟩ := ha q
    rw [e1, e3]
    have : (0 : Int32) ≠ pm 1 := fun e => by rw [← e, ti_0] at w1; omega
    exact ⟨this, this⟩
  have l1 : (ym 4 0 + 1).toInt = (ym 4 0).toInt + 1 := by rw [ti_add (by rw [ti_1, ← hq1]; omega) (by rw [ti_1, ← hq1]; omega), ti_1]
  have l2 : (ym 4 1 + 1).toInt = (ym 4 1).toInt + 1 := by rw [ti_add (by rw [ti_1, ← hq2]; omega) (by rw [ti_1, ← hq2]; omega), ti_1]
  have hK := RK.up (M' := 65900 * (((k + 1 : Nat) : Int) + 1)) h8 (by omega)
  unfold f_m_endRow f_endRow f_endRow_2
  rw [cl_0, cl_1]
  by_cases c0 : ym 3 0 = pm 1
  · obtain ⟨p0, q0⟩ := hG1.1 c0
    obtain ⟨k9, ab, hE, hA⟩ := pu_e9 (pm := pm) (ym := ym) w2 ((pm 1).toInt.toNat + 1) 0 (ym 1) (by rw [ti_0]; omega) (by rw [ti_0]; omega) (by rw [ti_0]; omega)
    rw [if_pos c0, hE, q0]
    rw [ti_0] at hA
    by_cases c1 : ym 3 1 = pm 1
    · obtain ⟨p1, q1⟩ := hG2.1 c1
      rw [upd_ne (by omega), if_pos c1, q1]
      obtain ⟨ab2, hE2, hA2⟩ := pu_e14 (pm := pm) (ym := ym) (k9 := k9) (a9 := ab) w2 ((pm 1).toInt.toNat + 1) 0 ab (by rw [ti_0]; omega) (by rw [ti_0]; omega) (by rw [ti_0]; omega)
      rw [hE2]
      rw [ti_0] at hA2
      refine ⟨_, mk6 (d 0) 0 (d 2 + 1) 0 (d 5) (d 5), mk6 (d' 0) 0 (d' 2 + 1) 0 (d' 5) (d' 5), _, _, rfl, rfl, ⟨h1, h2, h3, ?_, ?_, h6, h7, hK, h9, ⟨?_, ?_⟩, hb⟩⟩
      · refine pu_nr h4 h3 hk p0 rfl (fun j hj => ?_) ?_ rfl rfl rfl
        · show ab2 (65536 * 0 + j) = if j < (pm 1).toInt.toNat then ym 0 (65536 * 0 + j) else ym 1 (65536 * 0 + j)
          rw [hA2, if_neg (by omega), hA]
          by_cases e : j < (pm 1).toInt.toNat
          · rw [if_pos e, if_pos (by omega)]
          · rw [if_neg e, if_neg (by omega)]
        · rfl
      · refine pu_nr h5 h3 hk p1 rfl (fun j hj => ?_) ?_ rfl rfl rfl
        · show ab2 (65536 * 1 + j) = if j < (pm 1).toInt.toNat then ym 0 (65536 * 1 + j) else ym 1 (65536 * 1 + j)
          rw [hA2]
          by_cases e : j < (pm 1).toInt.toNat
          · rw [if_pos e, if_pos (by omega)]
          · rw [if_neg e, if_neg (by omega), hA, if_neg (by omega)]
        · show ab 65536 = _
          rw [hA, if_neg (by omega)]
      · intro q; exact absurd c0 (hz q).1
      · intro q
        show 0 < (0 : Int32).toInt + (ym 4 0 + 1).toInt + (0 : Int32).toInt + (ym 4 1 + 1).toInt
        rw [ti_0, l1, l2, ← hq1, ← hq2]; omega
    · rw [upd_ne (by omega), if_neg c1, hG2.2 c1]
      refine ⟨_, mk6 (d 0) 0 (d 2 + 1) 0 (d 5) (d 5), mk6 (d' 0) (d' 1) (d' 2) (d' 3) (d' 4) (d' 5), _, _, rfl, rfl, ⟨h1, h2, h3, ?_, ?_, h6, h7, hK, h9, ⟨?_, ?_⟩, hb⟩⟩
      · refine pu_nr h4 h3 hk p0 rfl (fun j hj => ?_) rfl rfl rfl rfl
        show ab (65536 * 0 + j) = if j < (pm 1).toInt.toNat then ym 0 (65536 * 0 + j) else ym 1 (65536 * 0 + j)
        rw [hA]
        by_cases e : j < (pm 1).toInt.toNat
        · rw [if_pos e, if_pos (by omega)]
        · rw [if_neg e, if_neg (by omega)]
      · refine pu_nro h5 h3 rfl (fun j hj => ?_) rfl rfl rfl rfl
        show ab (65536 * 1 + j) = _
        rw [hA, if_neg (by omega)]
      · intro q; exact absurd c0 (hz q).1
      · intro q
        show 0 < (0 : Int32).toInt + (ym 4 0 + 1).toInt + (ym 3 1).toInt + (ym 4 1).toInt
        rw [ti_0, l1, ← hq1, ← hq2, ← hr2]; omega
  · rw [if_neg c0, hG1.2 c0]
    by_cases c1 : ym 3 1 = pm 1
    · obtain ⟨p1, q1⟩ := hG2.1 c1
      obtain ⟨ab, hE, hA⟩ := pu_e6 (pm := pm) (ym := ym) w2 ((pm 1).toInt.toNat + 1) 0 (ym 1) (by rw [ti_0]; omega) (by rw [ti_0]; omega) (by rw [ti_0]; omega)
      rw [if_pos c1, q1, hE]
      rw [ti_0] at hA
      refine ⟨_, mk6 (d 0) (d 1) (d 2) (d 3) (d 4) (d 5), mk6 (d' 0) 0 (d' 2 + 1) 0 (d' 5) (d' 5), _, _, rfl, rfl, ⟨h1, h2, h3, ?_, ?_, h6, h7, hK, h9, ⟨?_, ?_⟩, hb⟩⟩
      · refine pu_nro h4 h3 rfl (fun j hj => ?_) rfl rfl rfl rfl
        show ab (65536 * 0 + j) = _
        rw [hA, if_neg (by omega)]
      · refine pu_nr h5 h3 hk p1 rfl (fun j hj => ?_) rfl rfl rfl rfl
        show ab (65536 * 1 + j) = if j < (pm 1).toInt.toNat then ym 0 (65536 * 1 + j) else ym 1 (65536 * 1 + j)
        rw [hA]
        by_cases e : j < (pm 1).toInt.toNat
        · rw [if_pos e, if_pos (by omega)]
        · rw [if_neg e, if_neg (by omega)]
      · intro q; exact absurd c1 (hz q).2
      · intro q
        show 0 < (ym 3 0).toInt + (ym 4 0).toInt + (0 : Int32).toInt + (ym 4 1 + 1).toInt
        rw [ti_0, l2, ← hq1, ← hq2, ← hr1]; omega
    · rw [if_neg c1, hG2.2 c1]
      exact ⟨_, _, _, _, _, rfl, rfl, (hR.up (k' := k + 1) (by omega)).kp pu_KP0⟩
theorem pu_fresh {k n : Nat} {z g d rr : Nat → Int32} {x : Nat → Nat → Int32} {d' rr' : Nat → Int32} {x' : Nat → Nat → Int32} {oL pm : Nat → Int32} {ym : Nat → Nat → Int32}
    (hR : RR 0 1 k n z g d rr x d' rr' x' oL pm ym) (hk : k < 512) : f_m_isFresh pm ym = if z 1 = 0 then 1 else 0 := by
  obtain ⟨h1, h2, h3, h4, h5, h6, h7, h8, h9, ⟨ha, ha'⟩, hb⟩ := hR
  obtain ⟨⟨a0, a1, a2, a3, a3'⟩, ⟨b1, b2, b3⟩, b4, -⟩ := h4
  obtain ⟨⟨e0, e1, e2, e3, e3'⟩, ⟨f1, f2, f3⟩, f4, -⟩ := h5
  unfold f_m_isFresh
  rw [cl_0, cl_1]
  by_cases c : z 1 = 0
  · obtain ⟨⟨q1, q2, q3, q4⟩, _⟩ := ha c
    rw [q1, q2, q3, q4, if_pos c]; rfl
  · have := ha' c
    rw [if_neg c, if_neg]
    rw [a1] at b1 b2; rw [a2] at b4; rw [e1] at f1 f2; rw [e2] at f4
    have s1 : (ym 3 0 + ym 4 0).toInt = (ym 3 0).toInt + (ym 4 0).toInt := ti_add (by omega) (by omega)
    have s2 : (ym 3 0 + ym 4 0 + ym 3 1).toInt = (ym 3 0).toInt + (ym 4 0).toInt + (ym 3 1).toInt := by rw [ti_add (by omega) (by omega), s1]
    have s3 : (ym 3 0 + ym 4 0 + ym 3 1 + ym 4 1).toInt = (ym 3 0).toInt + (ym 4 0).toInt + (ym 3 1).toInt + (ym 4 1).toInt := by rw [ti_add (by omega) (by omega), s2]
    rw [pu_eq, s3, ti_0]; omega
theorem pu_TH {k n : Nat} {z g d rr : Nat → Int32} {x : Nat → Nat → Int32} {d' rr' : Nat → Int32} {x' : Nat → Nat → Int32} {oL oS pm : Nat → Int32} {ym : Nat → Nat → Int32} {v w q : Int32}
    (hR : RR 0 1 k n z g d rr x d' rr' x' oL pm ym) (hk : k < 512) :
    ∃ (b : Int32) (pm' : Nat → Int32), f_m_thresholds pm ym v w q = (b, pm') ∧ ((f_thresholds n n z g d rr x d' rr' x' oL oS v w q = .inr 1 ∧ pm' 0 = 1 ∧ RR 0 1 k n z g d rr x d' rr' x' oL pm' ym) ∨
      (∃ g' : Nat → Int32, f_thresholds n n z g d rr x d' rr' x' oL oS v w q = .inl (b, g') ∧ pm' 0 = 0 ∧ RR 0 1 k n z g' d rr x d' rr' x' oL pm' ym)) := by
  have hF := pu_fresh hR hk
  unfold f_m_thresholds f_thresholds f_m_thresholds_2
  rw [hF]
  by_cases c : z 1 = 0
  case neg =>
    rw [if_neg c, if_neg c, if_pos rfl]
    have : ∀ t : Int32 × (Nat → Int32), t = (0, mk22 1 (pm 1) (pm 2) (pm 3) (pm 4) (pm 5) (pm 6) (pm 7) (pm 8) (pm 9) (pm 10) (pm 11) (pm 12) (pm 13) (pm 14) (pm 15) (pm 16) (pm 17) (pm 18) (pm 19) (pm 20) (pm 21)) → ∃ (b : Int32) (pm' : Nat → Int32), t = (b, pm') ∧ (((.inr 1 : (Int32 × (Nat → Int32)) ⊕ Nat) = .inr 1 ∧ pm' 0 = 1 ∧ RR 0 1 k n z g d rr x d' rr' x' oL pm' ym) ∨
      (∃ g' : Nat → Int32, (.inr 1 : (Int32 × (Nat → Int32)) ⊕ Nat) = .inl (b, g') ∧ pm' 0 = 0 ∧ RR 0 1 k n z g' d rr x d' rr' x' oL pm' ym)) := fun t ht => by
      subst ht
      exact ⟨_, _, rfl, Or.inl ⟨rfl, rfl, hR.kp pu_KP0⟩⟩
    apply this
    repeat' split
    all_goals rfl
  rw [if_pos c, if_pos c, if_neg (by decide)]
  obtain ⟨h1, h2, h3, h4, h5, h6, h7, h8, h9, ha, hb⟩ := id hR
  obtain ⟨g0, g1, g2, g3, g4, g5, g6, g7⟩ := h1
  obtain ⟨⟨t1, t2⟩, ⟨t3, t4⟩, ⟨t5, t6, t7, t8⟩, t9⟩ := h2
  have e1 : (pm 3 + 1).toInt = (pm 3).toInt + 1 := by rw [ti_add (by rw [ti_1]; omega) (by rw [ti_1]; omega), ti_1]
  rw [g0, g1]
  by_cases c1 : v ≤ pm 3
  · have c1' : v < pm 3 + 1 := by rw [pu_le] at c1; rw [pu_lt, e1]; omega
    rw [if_pos c1, if_pos c1']
    exact ⟨_, _, rfl, Or.inr ⟨g, rfl, rfl, hR.kp pu_KP0⟩⟩
  have c1' : ¬ v < pm 3 + 1 := by rw [pu_le] at c1; rw [pu_lt, e1]; omega
  rw [if_neg c1, if_neg c1']
  by_cases c2 : w < v
  · rw [if_pos c2, if_pos c2]
    exact ⟨_, _, rfl, Or.inr ⟨g, rfl, rfl, hR.kp pu_KP0⟩⟩
  rw [if_neg c2, if_neg c2]
  by_cases c3 : q < w
  · rw [if_pos c3, if_pos c3]
    exact ⟨_, _, rfl, Or.inr ⟨g, rfl, rfl, hR.kp pu_KP0⟩⟩
  rw [if_neg c3, if_neg c3]
  by_cases c4 : pm 2 < q
  · rw [if_pos c4, if_neg (by rw [pu_lt] at c4; rw [pu_le]; omega)]
    exact ⟨_, _, rfl, Or.inr ⟨g, rfl, rfl, hR.kp pu_KP0⟩⟩
  rw [if_neg c4, if_pos (by rw [pu_lt] at c4; rw [pu_le]; omega)]
  rw [pu_le] at c1; rw [pu_lt] at c2 c3 c4
  refine ⟨_, _, rfl, Or.inr ⟨_, rfl, rfl, ⟨rfl, rfl, g2, g3, rfl, rfl, rfl, g7⟩, ⟨⟨t1, t2⟩, ⟨t3, t4⟩, ⟨?_, ?_, ?_, ?_⟩, t9⟩, h3, h4, h5, h6, h7, h8, h9, ha, hb⟩⟩
  · show (pm 3).toInt < v.toInt
    omega
  · show v.toInt ≤ w.toInt
    omega
  · show w.toInt ≤ q.toInt
    omega
  · show q.toInt ≤ (pm 2).toInt
    omega
theorem pu_RE {k n : Nat} {z g d rr : Nat → Int32} {x : Nat → Nat → Int32} {d' rr' : Nat → Int32} {x' : Nat → Nat → Int32} {oL oS pm : Nat → Int32} {ym : Nat → Nat → Int32} {v : Int32}
    (hR : RR 0 1 k n z g d rr x d' rr' x' oL pm ym) (hk : k < 512) :
    ∃ (b : Int32) (pm' : Nat → Int32), f_m_reset pm ym v = (b, pm') ∧ ((f_reset n n z g d rr x d' rr' x' oL oS v = .inr 1 ∧ pm' 0 = 1 ∧ RR 0 1 k n z g d rr x d' rr' x' oL pm' ym) ∨
      (∃ g' : Nat → Int32, f_reset n n z g d rr x d' rr' x' oL oS v = .inl (b, g') ∧ pm' 0 = 0 ∧ RR 0 1 k n z g' d rr x d' rr' x' oL pm' ym)) := by
  have hF := pu_fresh hR hk
  unfold f_m_reset f_reset f_m_reset_2
  rw [hF]
  by_cases c : z 1 = 0
  case neg =>
    rw [if_neg c, if_neg c, if_pos rfl]
    exact ⟨_, _, rfl, Or.inl ⟨rfl, rfl, hR.kp pu_KP0⟩⟩
  rw [if_pos c, if_pos c, if_neg (by decide)]
  obtain ⟨h1, h2, h3, h4, h5, h6, h7, h8, h9, ha, hb⟩ := id hR
  obtain ⟨g0, g1, g2, g3, g4, g5, g6, g7⟩ := h1
  obtain ⟨t1, t2, t3, t4, t5, t6⟩ := h2
  have e3 : (3 : Int32).toInt = 3 := by decide
  have e255 : (255 : Int32).toInt = 255 := by decide
  by_cases c1 : v < 3
  · rw [if_pos c1, if_pos c1]
    exact ⟨_, _, rfl, Or.inr ⟨g, rfl, rfl, hR.kp pu_KP0⟩⟩
  rw [if_neg c1, if_neg c1]
  by_cases c2 : v ≤ 255
  case neg =>
    rw [if_neg c2, if_neg c2]
    exact ⟨_, _, rfl, Or.inr ⟨g, rfl, rfl, hR.kp pu_KP0⟩⟩
  rw [if_pos c2, if_pos c2]
  rw [pu_lt, e3] at c1; rw [pu_le, e255] at c2
  refine ⟨_, _, rfl, Or.inr ⟨_, rfl, rfl, ⟨g0, g1, g2, g3, g4, g5, g6, rfl⟩, ⟨t1, t2, t3, t4, t5, ?_⟩, h3, h4, h5, h6, h7, ?_, h9, ha, hb⟩⟩
  · show 3 ≤ v.toInt ∧ v.toInt ≤ 255
    omega
  · intro j hj
    obtain ⟨k1, k2, k3, k4, k5, k6⟩ := h8 j hj
    have hN := (ha.1 c).2 j hj
    refine ⟨k1, ?_, k3, k4, k5, k6⟩
    show (ym 7 j).toInt ≤ v.toInt
    rw [hN, ti_1]; omega
theorem pu_NE {k n : Nat} {z g d rr : Nat → Int32} {x : Nat → Nat → Int32} {d' rr' : Nat → Int32} {x' : Nat → Nat → Int32} {oL oS pm : Nat → Int32} {ym : Nat → Nat → Int32} {v : Int32}
    (hR : RR 0 1 k n z g d rr x d' rr' x' oL pm ym) :
    ∃ (b : Int32) (pm' : Nat → Int32), f_m_neighbour pm ym v = (b, pm') ∧ KP pm pm' ∧ ((∃ c : Nat, f_neighbour n n z g d rr x d' rr' x' oL oS v = .inr c ∧ pm' 0 = 1) ∨ (f_neighbour n n z g d rr x d' rr' x' oL oS v = .inl b ∧ pm' 0 = 0)) := by
  obtain ⟨r0, r1, r2, r3, r4, r5, r6⟩ := hR.2.2.2.2.2.2.2.2.2.2
  have e0 : (0 : Int32).toInt = 0 := by decide
  have e1 : (1 : Int32).toInt = 1 := by decide
  have e2 : (2 : Int32).toInt = 2 := by decide
  have e3 : (3 : Int32).toInt = 3 := by decide
  have e4 : (4 : Int32).toInt = 4 := by decide
  unfold f_m_neighbour f_neighbour
  by_cases c0 : v = 0
  · subst c0
    exact ⟨_, _, rfl, pu_KP0, Or.inr ⟨congrArg Sum.inl r0, rfl⟩⟩
  rw [if_neg c0]
  by_cases c1 : v = 1
  · subst c1
    exact ⟨_, _, rfl, pu_KP0, Or.inr ⟨congrArg Sum.inl r1, rfl⟩⟩
  rw [if_neg c1]
  by_cases c2 : v = 2
  · subst c2
    exact ⟨_, _, rfl, pu_KP0, Or.inr ⟨congrArg Sum.inl r2, rfl⟩⟩
  rw [if_neg c2]
  by_cases c3 : v = 3
  · subst c3
    exact ⟨_, _, rfl, pu_KP0, Or.inr ⟨congrArg Sum.inl r3, rfl⟩⟩
  rw [if_neg c3]
  by_cases c4 : v = 4
  · subst c4
    exact ⟨_, _, rfl, pu_KP0, Or.inr ⟨congrArg Sum.inl r4, rfl⟩⟩
  rw [if_neg c4]
  by_cases d1 : v < 0
  · rw [if_pos d1]
    exact ⟨_, _, rfl, pu_KP0, Or.inl ⟨3, rfl, rfl⟩⟩
  · rw [pu_eq] at c0 c1 c2 c3 c4
    rw [if_neg d1, if_neg (by rw [pu_lt] at d1; rw [pu_le]; omega)]
    exact ⟨_, _, rfl, pu_KP0, Or.inl ⟨3, rfl, rfl⟩⟩
theorem pu_SE {k n : Nat} {z g d rr : Nat → Int32} {x : Nat → Nat → Int32} {d' rr' : Nat → Int32} {x' : Nat → Nat → Int32} {oL oS pm : Nat → Int32} {ym : Nat → Nat → Int32} {v : Int32}
    (hR : RR 0 1 k n z g d rr x d' rr' x' oL pm ym) :
    ∃ (b : Int32) (pm' : Nat → Int32), f_m_setting pm ym v = (b, pm') ∧ KP pm pm' ∧ ((∃ c : Nat, f_setting n n z g d rr x d' rr' x' oL oS v = .inr c ∧ pm' 0 = 1) ∨ (f_setting n n z g d rr x d' rr' x' oL oS v = .inl b ∧ pm' 0 = 0)) := by
  obtain ⟨g0, g1, g2, g3, g4, g5, g6, g7⟩ := hR.1
  obtain ⟨⟨a0, a1, a2, a3, a3'⟩, -⟩ := hR.2.2.2.1
  obtain ⟨⟨b0, b1, b2, b3, b3'⟩, -⟩ := hR.2.2.2.2.1
  have e0 : (0 : Int32).toInt = 0 := by decide
  have e1 : (1 : Int32).toInt = 1 := by decide
  have e2 : (2 : Int32).toInt = 2 := by decide
  have e3 : (3 : Int32).toInt = 3 := by decide
  have e4 : (4 : Int32).toInt = 4 := by decide
  have e5 : (5 : Int32).toInt = 5 := by decide
  have e6 : (6 : Int32).toInt = 6 := by decide
  have e7 : (7 : Int32).toInt = 7 := by decide
  have e8 : (8 : Int32).toInt = 8 := by decide
  have e9 : (9 : Int32).toInt = 9 := by decide
  have e10 : (10 : Int32).toInt = 10 := by decide
  unfold f_m_setting f_setting
  by_cases c0 : v = 0
  · subst c0
    exact ⟨_, _, rfl, pu_KP0, Or.inr ⟨congrArg Sum.inl g0, rfl⟩⟩
  by_cases c1 : v = 1
  · subst c1
    exact ⟨_, _, rfl, pu_KP0, Or.inr ⟨congrArg Sum.inl g3, rfl⟩⟩
  by_cases c2 : v = 2
  · subst c2
    exact ⟨_, _, rfl, pu_KP0, Or.inr ⟨congrArg Sum.inl g1, rfl⟩⟩
  by_cases c3 : v = 3
  · subst c3
    exact ⟨_, _, rfl, pu_KP0, Or.inr ⟨congrArg Sum.inl g4, rfl⟩⟩
  by_cases c4 : v = 4
  · subst c4
    exact ⟨_, _, rfl, pu_KP0, Or.inr ⟨congrArg Sum.inl g5, rfl⟩⟩
  by_cases c5 : v = 5
  · subst c5
    exact ⟨_, _, rfl, pu_KP0, Or.inr ⟨congrArg Sum.inl g6, rfl⟩⟩
  by_cases c6 : v = 6
  · subst c6
    exact ⟨_, _, rfl, pu_KP0, Or.inr ⟨congrArg Sum.inl g7, rfl⟩⟩
  by_cases c7 : v = 7
  · subst c7
    exact ⟨_, _, rfl, pu_KP0, Or.inr ⟨congrArg Sum.inl a1, rfl⟩⟩
  by_cases c8 : v = 8
  · subst c8
    exact ⟨_, _, rfl, pu_KP0, Or.inr ⟨congrArg Sum.inl a2, rfl⟩⟩
  by_cases c9 : v = 9
  · subst c9
    exact ⟨_, _, rfl, pu_KP0, Or.inr ⟨congrArg Sum.inl b1, rfl⟩⟩
  by_cases c10 : v = 10
  · subst c10
    exact ⟨_, _, rfl, pu_KP0, Or.inr ⟨congrArg Sum.inl b2, rfl⟩⟩
  simp only [if_neg c0, if_neg c1, if_neg c2, if_neg c3, if_neg c4, if_neg c5, if_neg c6, if_neg c7, if_neg c8, if_neg c9, if_neg c10]
  by_cases d1 : v < 0
  · rw [if_pos d1]
    exact ⟨_, _, rfl, pu_KP0, Or.inl ⟨3, rfl, rfl⟩⟩
  · rw [pu_eq] at c0 c1 c2 c3 c4 c5 c6 c7 c8 c9 c10
    rw [if_neg d1, if_neg (by rw [pu_lt] at d1; rw [pu_le]; omega)]
    exact ⟨_, _, rfl, pu_KP0, Or.inl ⟨3, rfl, rfl⟩⟩
theorem pu_QU {k n : Nat} {z g d rr : Nat → Int32} {x : Nat → Nat → Int32} {d' rr' : Nat → Int32} {x' : Nat → Nat → Int32} {oL oS pm : Nat → Int32} {ym : Nat → Nat → Int32} {v : Int32}
    (hR : RR 0 1 k n z g d rr x d' rr' x' oL pm ym) :
    ∃ (b : Int32) (pm' : Nat → Int32), f_m_quantised pm ym v = (b, pm') ∧ KP pm pm' ∧ ((∃ c : Nat, f_quantised n n z g d rr x d' rr' x' oL oS v = .inr c ∧ pm' 0 = 1) ∨ (f_quantised n n z g d rr x d' rr' x' oL oS v = .inl b ∧ pm' 0 = 0)) := by
  have hG := hR.1
  have hT := hR.2.1
  unfold f_m_quantised f_quantised
  by_cases c0 : v < -70000
  · rw [if_pos c0, if_pos c0]
    exact ⟨_, _, rfl, pu_KP0, Or.inl ⟨2, rfl, rfl⟩⟩
  rw [if_neg c0, if_neg c0]
  by_cases c1 : v ≤ 70000
  · rw [if_pos c1, if_pos c1]
    refine ⟨_, _, rfl, pu_KP0, Or.inr ⟨?_, rfl⟩⟩
    unfold f_quantised_4
    refine congrArg Sum.inl ?_
    exact pu_steps (pm := mk22 0 (pm 1) (pm 2) (pm 3) (pm 4) (pm 5) (pm 6) (pm 7) (pm 8) (pm 9) (pm 10) (pm 11) (pm 12) (pm 13) (pm 14) (pm 15) (pm 16) (pm 17) (pm 18) (pm 19) (pm 20) (pm 21)) hG.2.1 hG.2.2.1 (by show 0 < (pm 4).toInt; have := hT.2.2.2.1.1; omega) v
  · rw [if_neg c1, if_neg c1]
    exact ⟨_, _, rfl, pu_KP0, Or.inl ⟨2, rfl, rfl⟩⟩
theorem pu_hld {g : Nat → Int32} {x ym : Nat → Nat → Int32} {s : Nat} {v w q : Int32} (hC : RC s x ym) (hv : (v = 0 ∧ s = 0) ∨ (v = 1 ∧ s = 1)) (h0 : 1 ≤ w.toInt) (h1 : w.toInt ≤ 366) {f : Int32 → Int32 × (Nat → Int32)} :
    (if q = 0 then f ((ym 6) ((367 * v) + w).toNatClampNeg) else if q = 1 then f ((ym 8) ((367 * v) + w).toNatClampNeg) else if q = 2 then f ((ym 9) ((367 * v) + w).toNatClampNeg) else f ((ym 7) ((367 * v) + w).toNatClampNeg)) = f (f_held g x w q) := by
  have hix : ((367 * v) + w).toNatClampNeg = 367 * s + w.toNatClampNeg := pu_ixc (q := w) hv (by omega) (by omega)
  have hw : w.toNatClampNeg < 367 := by show w.toInt.toNat < 367; omega
  obtain ⟨c0, c1, c2, c3⟩ := hC _ hw
  unfold f_held f_held_2
  rw [pu_has h0 h1, if_neg (show ¬ (1 : Int32) = 0 from by decide), hix, c0, c1, c2, c3]
  repeat' split
  all_goals rfl
theorem pu_ST {k n : Nat} {z g d rr : Nat → Int32} {x : Nat → Nat → Int32} {d' rr' : Nat → Int32} {x' : Nat → Nat → Int32} {oL oS pm : Nat → Int32} {ym : Nat → Nat → Int32} {v w q : Int32}
    (hR : RR 0 1 k n z g d rr x d' rr' x' oL pm ym) :
    ∃ (b : Int32) (pm' : Nat → Int32), f_m_state pm ym v w q = (b, pm') ∧ KP pm pm' ∧ ((∃ c : Nat, f_state n n z g d rr x d' rr' x' oL oS v w q = .inr c ∧ pm' 0 = 1) ∨ (f_state n n z g d rr x d' rr' x' oL oS v w q = .inl b ∧ pm' 0 = 0)) := by
  have hC1 : RC 0 x ym := hR.2.2.2.2.2.1
  have hC2 : RC 1 x' ym := hR.2.2.2.2.2.2.1
  have e366 : (366 : Int32).toInt = 366 := by decide
  unfold f_m_state f_state
  by_cases c0 : v < 0
  · rw [if_pos c0, if_pos c0]
    exact ⟨_, _, rfl, pu_KP0, Or.inl ⟨3, rfl, rfl⟩⟩
  rw [if_neg c0, if_neg c0]
  by_cases c1 : v ≤ 1
  case neg =>
    rw [if_neg c1, if_pos (by rw [pu_le] at c1; rw [pu_lt]; omega)]
    exact ⟨_, _, rfl, pu_KP0, Or.inl ⟨3, rfl, rfl⟩⟩
  rw [if_pos c1, if_neg (by rw [pu_le] at c1; rw [pu_lt]; omega)]
  unfold f_state_4
  by_cases c2 : w < 1
  · have hh : f_has w = 0 := by unfold f_has; rw [if_pos c2]
    rw [if_pos c2, hh, if_pos rfl]
    exact ⟨_, _, rfl, pu_KP0, Or.inl ⟨3, rfl, rfl⟩⟩
  rw [if_neg c2]
  by_cases c3 : 366 < w
  · have hh : f_has w = 0 := by unfold f_has; rw [if_neg c2, if_pos c3]
    rw [if_pos c3, hh, if_pos rfl]
    exact ⟨_, _, rfl, pu_KP0, Or.inl ⟨3, rfl, rfl⟩⟩
  have hh : f_has w = 1 := by unfold f_has; rw [if_neg c2, if_neg c3]
  rw [if_neg c3, hh, if_neg (show ¬ (1 : Int32) = 0 from by decide)]
  by_cases c4 : q < 0
  · rw [if_pos c4, if_pos c4]
    exact ⟨_, _, rfl, pu_KP0, Or.inl ⟨3, rfl, rfl⟩⟩
  rw [if_neg c4, if_neg c4]
  by_cases c5 : q ≤ 3
  case neg =>
    rw [if_neg c5, if_neg c5]
    exact ⟨_, _, rfl, pu_KP0, Or.inl ⟨3, rfl, rfl⟩⟩
  rw [if_pos c5, if_pos c5]
  rw [pu_lt, ti_1] at c2; rw [pu_lt, e366] at c3; rw [pu_lt, ti_0] at c0; rw [pu_le, ti_1] at c1
  by_cases c6 : v = 0
  · rw [if_pos c6, pu_hld (g := g) (q := q) (f := fun t => (t, mk22 0 (pm 1) (pm 2) (pm 3) (pm 4) (pm 5) (pm 6) (pm 7) (pm 8) (pm 9) (pm 10) (pm 11) (pm 12) (pm 13) (pm 14) (pm 15) (pm 16) (pm 17) (pm 18) (pm 19) (pm 20) (pm 21))) hC1 (Or.inl ⟨c6, rfl⟩) (by omega) (by omega)]
    exact ⟨_, _, rfl, pu_KP0, Or.inr ⟨rfl, rfl⟩⟩
  · have c7 : v = 1 := by rw [pu_eq, ti_0] at c6; rw [pu_eq, ti_1]; omega
    rw [if_neg c6, pu_hld (g := g) (q := q) (f := fun t => (t, mk22 0 (pm 1) (pm 2) (pm 3) (pm 4) (pm 5) (pm 6) (pm 7) (pm 8) (pm 9) (pm 10) (pm 11) (pm 12) (pm 13) (pm 14) (pm 15) (pm 16) (pm 17) (pm 18) (pm 19) (pm 20) (pm 21))) hC2 (Or.inr ⟨c7, rfl⟩) (by omega) (by omega)]
    exact ⟨_, _, rfl, pu_KP0, Or.inr ⟨rfl, rfl⟩⟩
