theorem pu_le {a b : Int32} : a ≤ b ↔ a.toInt ≤ b.toInt := Int32.le_iff_toInt_le
theorem pu_lt {a b : Int32} : a < b ↔ a.toInt < b.toInt := Int32.lt_iff_toInt_lt
theorem pu_eq {a b : Int32} : a = b ↔ a.toInt = b.toInt := Int32.toInt_inj.symm
theorem pu_size (v : Int32) : jabs v = f_m_size v := by
  unfold jabs f_m_size
  split
  · rfl
  · exact Int32.zero_sub v
theorem pu_within {n lo hi : Int32} (h : lo.toInt ≤ hi.toInt) : f_within n lo hi = f_m_brought n lo hi := by
  unfold f_within jmax jmin f_m_brought
  simp only [pu_le, pu_lt]
  by_cases h1 : n.toInt < hi.toInt
  · rw [if_pos h1]
    by_cases h2 : lo.toInt < n.toInt
    · rw [if_pos h2, if_pos (by omega), if_pos (by omega)]
    · rw [if_neg h2]
      by_cases h3 : lo.toInt ≤ n.toInt
      · rw [if_pos h3, if_pos (by omega)]; exact pu_eq.2 (by omega)
      · rw [if_neg h3]
  · rw [if_neg h1]
    by_cases h2 : lo.toInt < hi.toInt
    · rw [if_pos h2, if_pos (by omega)]
      by_cases h3 : n.toInt ≤ hi.toInt
      · rw [if_pos h3]; exact pu_eq.2 (by omega)
      · rw [if_neg h3]
    · rw [if_neg h2]
      have e : lo = hi := pu_eq.2 (by omega)
      subst e
      rw [if_pos (by omega)]
      by_cases h3 : n.toInt ≤ lo.toInt
      · rw [if_pos h3]; exact pu_eq.2 (by omega)
      · rw [if_neg h3]
theorem pu_asSample {g pm : Nat → Int32} (e0 : g 0 = pm 2) (h : 0 ≤ (pm 2).toInt) (v : Int32) : f_asSample g v = f_m_brought v 0 (pm 2) := by
  unfold f_asSample f_asSample_2
  rw [e0]; exact pu_within (by rw [ti_0]; exact h)
theorem pu_flat {g pm : Nat → Int32} {ym : Nat → Nat → Int32} (e1 : g 1 = pm 3) (v : Int32) : f_isFlat g v = f_m_isNear pm ym v := by
  unfold f_isFlat f_m_isNear f_m_isNear_2
  rw [e1, pu_size]
theorem pu_range {g pm : Nat → Int32} {ym : Nat → Nat → Int32} (e1 : g 3 = pm 5) (v : Int32) : f_inRange g v = f_m_around pm ym v := by
  unfold f_inRange f_m_around; rw [e1]
theorem pu_steps {g pm : Nat → Int32} {ym : Nat → Nat → Int32} (e1 : g 1 = pm 3) (e2 : g 2 = pm 4) (h : 0 < (pm 4).toInt) (v : Int32) : f_inSteps g v = f_m_quantise pm ym v := by
  unfold f_inSteps f_m_quantise f_inSteps_3 f_inSteps_5 f_divided
  rw [e1, e2]
  have h0 : ¬ pm 4 ≤ 0 := by rw [pu_le, ti_0]; omega
  rw [if_neg h0, if_neg h0]
theorem pu_sizei {v : Int32} (h : -2147483648 < v.toInt) : (f_m_size v).toInt = if 0 ≤ v.toInt then v.toInt else -v.toInt := by
  unfold f_m_size
  simp only [pu_le, ti_0]
  by_cases h1 : 0 ≤ v.toInt
  · rw [if_pos h1, if_pos h1]
  · rw [if_neg h1, if_neg h1, ti_neg h]
theorem pu_steep {g pm : Nat → Int32} {ym : Nat → Nat → Int32} (e1 : g 1 = pm 3) (e4 : g 4 = pm 6) (e5 : g 5 = pm 7) (e6 : g 6 = pm 8)
    (b1 : 0 ≤ (pm 3).toInt) (b2 : (pm 3).toInt < (pm 6).toInt) (b3 : (pm 6).toInt ≤ (pm 7).toInt) (b4 : (pm 7).toInt ≤ (pm 8).toInt) {v : Int32} (h : -65536 < v.toInt) :
    f_steepness g v = f_m_numberOf pm ym v := by
  unfold f_steepness f_m_numberOf
  rw [e1, e4, e5, e6, pu_size]
  have hs := pu_sizei (v := v) (by omega)
  have n8 : (-(pm 8)).toInt = -(pm 8).toInt := ti_neg (by omega)
  have n7 : (-(pm 7)).toInt = -(pm 7).toInt := ti_neg (by omega)
  have n6 : (-(pm 6)).toInt = -(pm 6).toInt := ti_neg (by omega)
  have n3 : (-(pm 3)).toInt = -(pm 3).toInt := ti_neg (by omega)
  simp only [pu_le, pu_lt, hs, n8, n7, n6, n3, ti_0]
  repeat' split
  all_goals first | rfl | (exfalso; omega) | decide
theorem pu_med {o pj : Nat → Int32} (e0 : o 0 = pj 11) (e1 : o 1 = pj 12) (e2 : o 2 = pj 13) {α : Type} (F : Int32 → α) (R : α)
    (hR : R = (if (pj 12) ≤ (pj 11) then
    if (pj 12) ≤ (pj 11) then
      if (pj 13) < (pj 11) then
        if (pj 12) < (pj 13) then F (((pj 11) + (pj 12)) - (pj 13))
        else F (pj 11)
      else F (pj 12)
    else
      if (pj 13) < (pj 12) then
        if (pj 12) < (pj 13) then F (((pj 11) + (pj 12)) - (pj 13))
        else F (pj 12)
      else F (pj 12)
  else
    if (pj 12) ≤ (pj 11) then
      if (pj 13) < (pj 11) then
        if (pj 11) < (pj 13) then F (((pj 11) + (pj 12)) - (pj 13))
        else F (pj 11)
      else F (pj 11)
    else
      if (pj 13) < (pj 12) then
        if (pj 11) < (pj 13) then F (((pj 11) + (pj 12)) - (pj 13))
        else F (pj 12)
      else F (pj 11))) : R = F (f_median o) := by
  subst hR
  unfold f_median jmax jmin
  rw [e0, e1, e2]
  generalize pj 11 = a
  generalize pj 12 = b
  generalize pj 13 = c
  simp only [pu_le, pu_lt]
  by_cases h : b.toInt ≤ a.toInt
  · have e : (if a.toInt < b.toInt then b else a) = a := if_neg (by omega)
    have e' : (if b.toInt < a.toInt then b else a) = b := by
      by_cases q : b.toInt < a.toInt
      · rw [if_pos q]
      · rw [if_neg q]; exact pu_eq.2 (by omega)
    simp only [e, e', if_pos h]
    repeat' split
    all_goals first | rfl | (exfalso; omega)
  · have e : (if a.toInt < b.toInt then b else a) = b := if_pos (by omega)
    have e' : (if b.toInt < a.toInt then b else a) = a := if_neg (by omega)
    simp only [e, e', if_neg h]
    repeat' split
    all_goals first | rfl | (exfalso; omega)
theorem pu_bl : ∀ (fuel : Nat) (pm : Nat → Int32) (ym : Nat → Nat → Int32) (v ww kk nn : Int32), vm_bi fuel ww nn → 0 ≤ kk.toInt → kk.toInt + fuel ≤ 100 → kk.toInt ≤ (fl_m_bitsOf fuel pm ym v ww kk nn).toInt
  | 0, _, _, _, _, _, _, h, _, _ => absurd h vm_bi0
  | fuel + 1, pm, ym, v, ww, kk, nn, h, h0, h1 => by
    unfold fl_m_bitsOf
    by_cases c : ww ≤ nn
    · rw [if_pos c]; exact Int.le_refl _
    · rw [if_neg c]
      have e : (kk + 1).toInt = kk.toInt + 1 := by rw [ti_add (by rw [ti_1]; omega) (by rw [ti_1]; omega), ti_1]
      have := pu_bl fuel pm ym v ww (kk + 1) (2 * nn) (vm_bin h c) (by omega) (by omega)
      show kk.toInt ≤ (fl_m_bitsOf fuel pm ym v ww (kk + 1) (2 * nn)).toInt
      omega
theorem pu_bits0 {pm : Nat → Int32} {ym : Nat → Nat → Int32} {v ww nn : Int32} (hw : ww.toInt ≤ 1073741824) (h0 : 0 < nn.toInt) :
    fl_m_bitsOf 32 pm ym v ww 0 nn = 0 ↔ ¬ nn < ww := by
  have hb := vm_bis hw h0
  unfold fl_m_bitsOf
  by_cases c : ww ≤ nn
  · rw [if_pos c]; rw [pu_lt]; rw [pu_le] at c; exact ⟨fun _ => by omega, fun _ => rfl⟩
  · rw [if_neg c]
    have := pu_bl 31 pm ym v ww (0 + 1) (2 * nn) (vm_bin hb c) (by decide) (by decide)
    have e1 : ((0 : Int32) + 1).toInt = 1 := by decide
    rw [e1] at this
    show fl_m_bitsOf 31 pm ym v ww (0 + 1) (2 * nn) = 0 ↔ _
    rw [pu_eq, ti_0]; rw [pu_le] at c; rw [pu_lt]
    constructor
    · intro h; omega
    · intro h; omega
def pu_at (s : Nat) (q : Int32) : Int32 := if s = 0 then q else 367 + q
theorem pu_ati {s : Nat} {q : Int32} (hs : s = 0 ∨ s = 1) (h0 : 1 ≤ q.toInt) (h1 : q.toInt ≤ 366) : (pu_at s q).toInt = 367 * s + q.toInt := by
  rcases hs with rfl | rfl
  · simp [pu_at]
  · show (367 + q).toInt = _
    have e : (367 : Int32).toInt = 367 := by decide
    rw [ti_add (by rw [e]; omega) (by rw [e]; omega), e]; omega
theorem pu_atn {s : Nat} {q : Int32} (hs : s = 0 ∨ s = 1) (h0 : 1 ≤ q.toInt) (h1 : q.toInt ≤ 366) : (pu_at s q).toNatClampNeg = 367 * s + q.toNatClampNeg := by
  show (pu_at s q).toInt.toNat = 367 * s + q.toInt.toNat
  rw [pu_ati hs h0 h1]; omega
theorem pu_mod {s : Nat} {q : Int32} (hs : s = 0 ∨ s = 1) (h0 : 1 ≤ q.toInt) (h1 : q.toInt ≤ 366) : (pu_at s q - pu_at s q / 367 * 367) = q := by
  have e := pu_ati hs h0 h1
  have e3 : (367 : Int32).toInt = 367 := by decide
  have hd : (pu_at s q / 367).toInt = s := by
    rw [ti_div (by omega) (by rw [e3]; omega), e3, e]; omega
  have hm : (pu_at s q / 367 * 367).toInt = 367 * s := by
    rw [ti_mul (by rw [hd, e3]; omega) (by rw [hd, e3]; omega), hd, e3]; omega
  apply pu_eq.2
  rw [ti_sub (by rw [hm, e]; omega) (by rw [hm, e]; omega), hm, e]; omega
theorem pu_has {q : Int32} (h0 : 1 ≤ q.toInt) (h1 : q.toInt ≤ 366) : f_has q = 1 := by
  unfold f_has
  have e3 : (366 : Int32).toInt = 366 := by decide
  rw [if_neg (by rw [pu_lt, ti_1]; omega), if_neg (by rw [pu_lt, e3]; omega)]
theorem pu_end {pm : Nat → Int32} {ym : Nat → Nat → Int32} {s : Nat} {q : Int32} (hs : s = 0 ∨ s = 1) (h0 : 1 ≤ q.toInt) (h1 : q.toInt ≤ 366) : f_m_isEnd pm ym (pu_at s q) = f_endsRun q := by
  unfold f_m_isEnd f_endsRun
  rw [pu_mod hs h0 h1]
  have e3 : (364 : Int32).toInt = 364 := by decide
  have e4 : (365 : Int32).toInt = 365 := by decide
  simp only [pu_lt, pu_le, e3, e4]
  by_cases c : q.toInt ≤ 364
  · rw [if_pos c, if_pos (by omega)]
  · rw [if_neg c, if_neg (by omega)]
theorem pu_kind {pm : Nat → Int32} {ym : Nat → Nat → Int32} {s : Nat} {q : Int32} (hs : s = 0 ∨ s = 1) (h0 : 1 ≤ q.toInt) (h1 : q.toInt ≤ 366) : f_m_kindOf pm ym (pu_at s q) = f_likeness q := by
  unfold f_m_kindOf f_likeness
  rw [pu_mod hs h0 h1]
def RC (s : Nat) (x ym : Nat → Nat → Int32) : Prop :=
  (∀ j : Nat, j < 367 → x 0 j = ym 6 (367 * s + j) ∧ x 1 j = ym 8 (367 * s + j) ∧ x 2 j = ym 9 (367 * s + j) ∧ x 3 j = ym 7 (367 * s + j))
theorem pu_rc {s : Nat} {x ym : Nat → Nat → Int32} {q : Int32} (hC : RC s x ym) (hs : s = 0 ∨ s = 1) (h0 : 1 ≤ q.toInt) (h1 : q.toInt ≤ 366) :
    x 0 q.toNatClampNeg = ym 6 (pu_at s q).toNatClampNeg ∧ x 1 q.toNatClampNeg = ym 8 (pu_at s q).toNatClampNeg ∧ x 2 q.toNatClampNeg = ym 9 (pu_at s q).toNatClampNeg ∧ x 3 q.toNatClampNeg = ym 7 (pu_at s q).toNatClampNeg := by
  rw [pu_atn hs h0 h1]
  exact hC _ (by show q.toInt.toNat < 367; omega)
theorem pu_atv {s : Nat} {q : Int32} (hs : s = 0 ∨ s = 1) (h0 : 1 ≤ q.toInt) (h1 : q.toInt ≤ 366) : vp_in (pu_at s q) 734 := by
  rw [vp_in_iff, pu_ati hs h0 h1]; omega
theorem pu_exp {g pm : Nat → Int32} {x ym : Nat → Nat → Int32} {s : Nat} {q : Int32} (hC : RC s x ym) (hi : vm_inv ym) (hs : s = 0 ∨ s = 1) (h0 : 1 ≤ q.toInt) (h1 : q.toInt ≤ 366) :
    f_exponentIsZero g x q = if f_m_bitsOf pm ym (pu_at s q) = 0 then 1 else 0 := by
  obtain ⟨c0, c1, c2, c3⟩ := pu_rc hC hs h0 h1
  have hv := pu_atv hs h0 h1
  unfold f_exponentIsZero f_exponentIsZero_2 f_m_bitsOf f_m_bitsOf_j1
  rw [pu_has h0 h1, pu_mod hs h0 h1, if_neg (by decide), c0, c3]
  by_cases c : q = 366
  · rw [if_pos c, if_pos c]
    have hb := pu_bits0 (pm := pm) (ym := ym) (v := pu_at s q) (vm_w1 hv hi) (vm_n0 hv hi)
    by_cases d : ym 7 (pu_at s q).toNatClampNeg < ym 6 (pu_at s q).toNatClampNeg + ym 7 (pu_at s q).toNatClampNeg / 2
    · rw [if_pos d, if_neg (fun h => (hb.1 h) d)]
    · rw [if_neg d, if_pos (hb.2 d)]
  · rw [if_neg c, if_neg c]
    have hb := pu_bits0 (pm := pm) (ym := ym) (v := pu_at s q) (vm_w2 hv hi) (vm_n0 hv hi)
    by_cases d : ym 7 (pu_at s q).toNatClampNeg < ym 6 (pu_at s q).toNatClampNeg + 0
    · rw [if_pos d, if_neg (fun h => (hb.1 h) d)]
    · rw [if_neg d, if_pos (hb.2 d)]
theorem pu_fold {g pm : Nat → Int32} {x ym : Nat → Nat → Int32} {s : Nat} {q : Int32} (e1 : g 1 = pm 3) (hC : RC s x ym) (hi : vm_inv ym) (hs : s = 0 ∨ s = 1) (h0 : 1 ≤ q.toInt) (h1 : q.toInt ≤ 366) (v : Int32) :
    f_fold g x q v = f_m_fold pm ym (pu_at s q) v := by
  obtain ⟨c0, c1, c2, c3⟩ := pu_rc hC hs h0 h1
  unfold f_fold f_fold_2 f_fold_5 f_fold_10 f_fold_12 f_turn f_turn_2 f_turnsAbove f_turnsAbove_2 f_turnsAbove_6 f_leansBelow f_leansBelow_2 f_leansBelow_7
  simp only [f_m_fold, f_m_fold_2, f_m_fold_5, f_m_fold_15, f_m_fold_18, f_m_fold_21, f_m_fold_24, f_m_fold_28, f_m_fold_31, f_m_fold_34, f_m_fold_37, f_m_fold_41, f_m_fold_44, f_m_fold_47, f_m_fold_50, f_m_fold_54, f_m_fold_57, f_m_fold_60, f_m_fold_63, f_m_fold_65, f_m_fold_77, f_m_fold_80, f_m_fold_84, f_m_fold_87, f_m_fold_91, f_m_fold_94, f_m_fold_98, f_m_fold_101, f_m_fold_105, f_m_fold_108, f_m_fold_113, f_m_fold_116, f_m_fold_120, f_m_fold_123]
  rw [pu_exp (pm := pm) hC hi hs h0 h1, pu_end hs h0 h1, pu_kind hs h0 h1, pu_has h0 h1, c1, c3, e1, pu_size]
  generalize f_m_bitsOf pm ym (pu_at s q) = bt
  generalize f_likeness q = lk
  generalize f_endsRun q = er
  generalize ym 7 (pu_at s q).toNatClampNeg = N
  generalize ym 8 (pu_at s q).toNatClampNeg = B
  generalize f_m_size v = sv
  have z1 : ¬ (1 : Int32) = 0 := by decide
  simp only [if_neg z1]
  by_cases cb : bt = 0
  · simp only [if_pos cb, if_neg z1]
    by_cases ce : er = 0
    · simp only [if_pos ce]
      by_cases c3 : pm 3 = 0
      · simp only [if_pos c3]
        by_cases cn : -N < 2 * B
        · simp only [if_pos cn, if_true]
        · simp only [if_neg cn, if_neg z1]
      · simp only [if_neg c3, if_true]
    · simp only [if_neg ce]
      by_cases cn : N ≤ 2 * B
      · have cn' : ¬ 2 * B < N := by rw [pu_lt]; rw [pu_le] at cn; omega
        simp only [if_pos cn, if_neg cn', if_true]
        by_cases cv : 0 ≤ v
        · simp only [if_pos cv]; repeat' split
          all_goals rfl
        · have cv' : v ≤ 0 := by rw [pu_le] at cv ⊢; omega
          simp only [if_neg cv, if_pos cv']
      · have cn' : 2 * B < N := by rw [pu_lt]; rw [pu_le] at cn; omega
        simp only [if_neg cn, if_pos cn', if_neg z1]
        by_cases cv : v ≤ 0
        · simp only [if_pos cv]; repeat' split
          all_goals rfl
        · have cv' : 0 ≤ v := by rw [pu_le] at cv ⊢; omega
          simp only [if_neg cv, if_pos cv']
  · simp only [if_neg cb, if_true]
    by_cases ce : er = 0
    · simp only [if_pos ce]
      repeat' split
      all_goals first | rfl | exact absurd rfl (by assumption)
    · simp only [if_neg ce]
      have e : (if N ≤ 2 * B then (0 : Int32) else 0) = 0 := by split <;> rfl
      simp only [e, if_true]
      by_cases cv : 0 ≤ v
      · simp only [if_pos cv]; repeat' split
        all_goals rfl
      · have cv' : v ≤ 0 := by rw [pu_le] at cv ⊢; omega
        simp only [if_neg cv, if_pos cv']; repeat' split
        all_goals rfl
