def RS (s k n : Nat) (mx wd : Int32) (d rr : Nat → Int32) (ym : Nat → Nat → Int32) : Prop :=
  (d 0 = wd ∧ d 1 = ym 3 s ∧ d 2 = ym 4 s ∧ d 3 = ym 5 s ∧ (d 3 = 0 ∨ d 3 = 1)) ∧
  (0 ≤ (d 1).toInt ∧ (d 1).toInt ≤ k ∧ (d 1).toInt ≤ wd.toInt) ∧ (0 ≤ (d 2).toInt ∧ (d 2).toInt ≤ k) ∧
  (d 4 = if d 1 = 0 then ym 2 s else ym 1 (65536 * s + (d 1).toNatClampNeg - 1)) ∧
  (d 1 ≠ 0 → d 5 = ym 1 (65536 * s)) ∧
  (∀ j : Nat, j < n → rr j = if j < (d 1).toNatClampNeg then ym 0 (65536 * s + j) else ym 1 (65536 * s + j)) ∧
  (∀ j : Nat, n ≤ j → j < 65536 → ym 1 (65536 * s + j) = 0) ∧
  (∀ j : Nat, j < 65536 → 0 ≤ (ym 1 (65536 * s + j)).toInt ∧ (ym 1 (65536 * s + j)).toInt ≤ mx.toInt) ∧
  (∀ j : Nat, j < 65536 → 0 ≤ (ym 0 (65536 * s + j)).toInt ∧ (ym 0 (65536 * s + j)).toInt ≤ mx.toInt) ∧
  (0 ≤ (ym 2 s).toInt ∧ (ym 2 s).toInt ≤ mx.toInt)
def RW (n : Nat) (wd : Int32) : Prop := 1 ≤ wd.toInt ∧ wd.toInt ≤ 65536 ∧ n ≤ 512 ∧ (n : Int) ≤ wd.toInt ∧ (wd.toInt ≤ 512 → (n : Int) = wd.toInt) ∧ (512 < wd.toInt → n = 512)
theorem pu_nI {n : Nat} (h : n ≤ 512) : (nI n).toInt = n := nI_toInt (by omega)
theorem pu_row {n : Nat} {d rr : Nat → Int32} {v : Int32} (h5 : n ≤ 512) (h0 : 0 ≤ v.toInt) : f_rowAt n d rr v = if v.toInt.toNat < n then rr v.toInt.toNat else 0 := by
  unfold f_rowAt
  simp only [pu_lt, pu_le, pu_nI h5, ti_0]
  rw [if_neg (by omega)]
  by_cases c : v.toInt.toNat < n
  · rw [if_pos c, if_neg (by omega)]; rfl
  · rw [if_neg c, if_pos (by omega)]
def nbA (ym : Nat → Nat → Int32) (s : Nat) : Int32 := if ym 3 s = 0 then ym 1 (65536 * s + (ym 3 s).toNatClampNeg) else ym 0 (65536 * s + (ym 3 s).toNatClampNeg - 1)
def nbB (ym : Nat → Nat → Int32) (s : Nat) : Int32 := ym 1 (65536 * s + (ym 3 s).toNatClampNeg)
def nbC (ym : Nat → Nat → Int32) (s : Nat) : Int32 := if ym 3 s = 0 then ym 2 s else ym 1 (65536 * s + (ym 3 s).toNatClampNeg - 1)
def nbD (ym : Nat → Nat → Int32) (s : Nat) (wd : Int32) : Int32 := if ym 3 s + 1 = wd then ym 1 (65536 * s + (ym 3 s).toNatClampNeg) else ym 1 (65536 * s + (ym 3 s).toNatClampNeg + 1)
theorem pu_nb {s k n : Nat} {mx wd : Int32} {d rr : Nat → Int32} {ym : Nat → Nat → Int32} (h : RS s k n mx wd d rr ym) (hW : RW n wd) (hk : k < 512) (hp : (d 1).toInt < wd.toInt) :
    f_rowAt n d rr (d 1) = nbB ym s ∧ (if d 1 ≤ 0 then nbB ym s else f_rowAt n d rr (d 1 - 1)) = nbA ym s ∧ d 4 = nbC ym s ∧ (if d 0 ≤ d 1 + 1 then nbB ym s else f_rowAt n d rr (d 1 + 1)) = nbD ym s wd := by
  obtain ⟨⟨a0, a1, a2, a3, a3'⟩, ⟨b1, b2, b3⟩, b4, c4, c5, cr, cz, m1, m0, m2⟩ := h
  obtain ⟨w1, w2, w3, w4, w5, w6⟩ := hW
  have hcl : (d 1).toNatClampNeg = (d 1).toInt.toNat := rfl
  have hpn : (d 1).toInt.toNat < n := by
    by_cases c : wd.toInt ≤ 512
    · have := w5 c; omega
    · have := w6 (by omega); omega
  have hB : f_rowAt n d rr (d 1) = nbB ym s := by
    rw [pu_row w3 b1, if_pos hpn, cr _ hpn, if_neg (by rw [hcl]; omega)]
    unfold nbB; rw [← a1, hcl]
  have hz : d 1 = 0 ↔ (d 1).toInt = 0 := by rw [pu_eq, ti_0]
  refine ⟨hB, ?_, ?_, ?_⟩
  · unfold nbA nbB
    rw [← a1]
    by_cases c : d 1 = 0
    · rw [if_pos c, if_pos (by rw [pu_le, ti_0]; rw [hz] at c; omega)]
    · rw [hz] at c
      have e : (d 1 - 1).toInt = (d 1).toInt - 1 := by rw [ti_sub (by rw [ti_1]; omega) (by rw [ti_1]; omega), ti_1]
      rw [if_neg (by rw [pu_le, ti_0]; omega), if_neg (by rw [hz]; exact c), pu_row w3 (by omega), e, if_pos (by omega), cr _ (by omega), if_pos (by rw [hcl]; omega), hcl]
      exact congrArg (ym 0) (by omega)
  · rw [c4]; unfold nbC; rw [← a1]
  · unfold nbD nbB
    rw [← a1, a0]
    have e : (d 1 + 1).toInt = (d 1).toInt + 1 := by rw [ti_add (by rw [ti_1]; omega) (by rw [ti_1]; omega), ti_1]
    by_cases c : d 1 + 1 = wd
    · rw [if_pos c, if_pos (by rw [pu_le, c]; omega)]
    · have c' := c
      rw [pu_eq, e] at c'
      rw [if_neg c, if_neg (by rw [pu_le, e]; omega), pu_row w3 (by omega), e, hcl]
      by_cases c2 : ((d 1).toInt + 1).toNat < n
      · rw [if_pos c2, cr _ c2, if_neg (by rw [hcl]; omega)]
        exact congrArg (ym 1) (by omega)
      · rw [if_neg c2]
        have := cz ((d 1).toInt.toNat + 1) (by omega) (by omega)
        rw [Nat.add_assoc]; exact this.symm
theorem pu_nbb {s k n : Nat} {mx wd : Int32} {d rr : Nat → Int32} {ym : Nat → Nat → Int32} (h : RS s k n mx wd d rr ym) (hW : RW n wd) (hp : (d 1).toInt < wd.toInt) :
    (0 ≤ (nbA ym s).toInt ∧ (nbA ym s).toInt ≤ mx.toInt) ∧ (0 ≤ (nbB ym s).toInt ∧ (nbB ym s).toInt ≤ mx.toInt) ∧ (0 ≤ (nbC ym s).toInt ∧ (nbC ym s).toInt ≤ mx.toInt) ∧ (0 ≤ (nbD ym s wd).toInt ∧ (nbD ym s wd).toInt ≤ mx.toInt) := by
  obtain ⟨⟨a0, a1, a2, a3, a3'⟩, ⟨b1, b2, b3⟩, b4, c4, c5, cr, cz, m1, m0, m2⟩ := h
  obtain ⟨w1, w2, w3, w4, w5, w6⟩ := hW
  have hcl : (d 1).toNatClampNeg = (d 1).toInt.toNat := rfl
  unfold nbA nbB nbC nbD
  rw [← a1, hcl]
  have e : (d 1 + 1).toInt = (d 1).toInt + 1 := by rw [ti_add (by rw [ti_1]; omega) (by rw [ti_1]; omega), ti_1]
  have hz : d 1 = 0 ↔ (d 1).toInt = 0 := by rw [pu_eq, ti_0]
  refine ⟨?_, m1 _ (by omega), ?_, ?_⟩
  · split
    · exact m1 _ (by omega)
    · rename_i c; rw [hz] at c
      rw [show 65536 * s + (d 1).toInt.toNat - 1 = 65536 * s + ((d 1).toInt.toNat - 1) from by omega]; exact m0 _ (by omega)
  · split
    · exact m2
    · rename_i c; rw [hz] at c
      rw [show 65536 * s + (d 1).toInt.toNat - 1 = 65536 * s + ((d 1).toInt.toNat - 1) from by omega]; exact m1 _ (by omega)
  · split
    · exact m1 _ (by omega)
    · rename_i c; rw [pu_eq, e] at c
      rw [Nat.add_assoc]; exact m1 _ (by omega)
def fl3 (pm : Nat → Int32) (ym : Nat → Nat → Int32) (a b c d : Int32) : Int32 :=
  if f_m_isNear pm ym (d - b) = 0 then 0 else if f_m_isNear pm ym (b - c) = 0 then 0 else if f_m_isNear pm ym (c - a) = 0 then 0 else 1
theorem pu_flat3 {g pm d o : Nat → Int32} {ym : Nat → Nat → Int32} (e1 : g 1 = pm 3) : f_isFlatAround g d o = fl3 pm ym (o 0) (o 1) (o 2) (o 3) := by
  unfold f_isFlatAround f_isFlatAround_2 f_isFlatAround_5 f_isFlatAround_8 fl3
  rw [pu_flat (ym := ym) e1, pu_flat (ym := ym) e1, pu_flat (ym := ym) e1]
theorem pu_flat3m {g pm d : Nat → Int32} {ym : Nat → Nat → Int32} (e1 : g 1 = pm 3) (a b c dd e f h i j : Int32) : f_isFlatAround g d (mk9 a b c dd e f h i j) = fl3 pm ym a b c dd := pu_flat3 e1
theorem pu_la {n : Nat} {g d rr o pm : Nat → Int32} {x ym : Nat → Nat → Int32} {a b c dd : Int32} (e1 : g 1 = pm 3)
    (hb : f_rowAt n d rr (d 1) = b) (ha : (if d 1 ≤ 0 then b else f_rowAt n d rr (d 1 - 1)) = a) (hc : d 4 = c) (hd : (if d 0 ≤ d 1 + 1 then b else f_rowAt n d rr (d 1 + 1)) = dd) :
    ∀ i : Nat, i < 9 → f_lookAhead n g x d rr o i = (if (if d 3 = 0 then fl3 pm ym a b c dd else 1) = 0 then f_expectByGradients g x (mk9 a b c dd 0 (o 5) (o 6) (o 7) (o 8)) i else mk9 a b c dd 1 0 1 a (o 8) i) := by
  intro i hi
  subst hc
  unfold f_lookAhead f_lookAhead_2
  rw [hb]
  have nine : ∀ f : Nat → Int32, (mk9 (f 0) (f 1) (f 2) (f 3) (f 4) (f 5) (f 6) (f 7) (f 8)) i = f i := fun f => by
    match i, hi with
    | 0, _ => rfl
    | 1, _ => rfl
    | 2, _ => rfl
    | 3, _ => rfl
    | 4, _ => rfl
    | 5, _ => rfl
    | 6, _ => rfl
    | 7, _ => rfl
    | 8, _ => rfl
  have z1 : ¬ (1 : Int32) = 0 := by decide
  by_cases c0 : d 1 ≤ 0
  · rw [if_pos c0] at ha ⊢
    subst ha
    by_cases c1 : d 0 ≤ d 1 + 1
    · rw [if_pos c1] at hd ⊢
      subst hd
      by_cases c3 : d 3 = 0
      · rw [if_pos c3, if_pos c3]
        unfold f_lookAhead_10 f_lookAhead_14 f_lookAhead_17
        rw [pu_flat3m (ym := ym) e1]
        by_cases c4 : fl3 pm ym b b (d 4) b = 0
        · rw [if_pos c4, if_pos c4, nine]
        · rw [if_neg c4, if_neg c4, nine]; rfl
      · rw [if_neg c3, if_neg c3, if_neg z1]
        unfold f_lookAhead_8; rw [nine]; rfl
    · rw [if_neg c1] at hd ⊢
      unfold f_lookAhead_19
      rw [hd]
      by_cases c3 : d 3 = 0
      · rw [if_pos c3, if_pos c3]
        unfold f_lookAhead_25 f_lookAhead_29 f_lookAhead_32
        rw [pu_flat3m (ym := ym) e1]
        by_cases c4 : fl3 pm ym b b (d 4) dd = 0
        · rw [if_pos c4, if_pos c4, nine]
        · rw [if_neg c4, if_neg c4, nine]; rfl
      · rw [if_neg c3, if_neg c3, if_neg z1]
        unfold f_lookAhead_23; rw [nine]; rfl
  · rw [if_neg c0] at ha ⊢
    unfold f_lookAhead_34
    rw [ha]
    by_cases c1 : d 0 ≤ d 1 + 1
    · rw [if_pos c1] at hd ⊢
      subst hd
      by_cases c3 : d 3 = 0
      · rw [if_pos c3, if_pos c3]
        unfold f_lookAhead_41 f_lookAhead_45 f_lookAhead_48
        rw [pu_flat3m (ym := ym) e1]
        by_cases c4 : fl3 pm ym a b (d 4) b = 0
        · rw [if_pos c4, if_pos c4, nine]
        · rw [if_neg c4, if_neg c4, nine]; rfl
      · rw [if_neg c3, if_neg c3, if_neg z1]
        unfold f_lookAhead_39; rw [nine]; rfl
    · rw [if_neg c1] at hd ⊢
      unfold f_lookAhead_50
      rw [hd]
      by_cases c3 : d 3 = 0
      · rw [if_pos c3, if_pos c3]
        unfold f_lookAhead_56 f_lookAhead_60 f_lookAhead_63
        rw [pu_flat3m (ym := ym) e1]
        by_cases c4 : fl3 pm ym a b (d 4) dd = 0
        · rw [if_pos c4, if_pos c4, nine]
        · rw [if_neg c4, if_neg c4, nine]; rfl
      · rw [if_neg c3, if_neg c3, if_neg z1]
        unfold f_lookAhead_54; rw [nine]; rfl
def RT (pm : Nat → Int32) : Prop :=
  (0 ≤ (pm 3).toInt ∧ (pm 3).toInt ≤ 255) ∧ (3 ≤ (pm 2).toInt ∧ (pm 2).toInt ≤ 65535) ∧ ((pm 3).toInt < (pm 6).toInt ∧ (pm 6).toInt ≤ (pm 7).toInt ∧ (pm 7).toInt ≤ (pm 8).toInt ∧ (pm 8).toInt ≤ (pm 2).toInt) ∧ (1 ≤ (pm 4).toInt ∧ (pm 4).toInt ≤ 511) ∧ (1 ≤ (pm 5).toInt ∧ (pm 5).toInt ≤ 65536) ∧ (3 ≤ (pm 9).toInt ∧ (pm 9).toInt ≤ 255)
def RG (g pm : Nat → Int32) : Prop := g 0 = pm 2 ∧ g 1 = pm 3 ∧ g 2 = pm 4 ∧ g 3 = pm 5 ∧ g 4 = pm 6 ∧ g 5 = pm 7 ∧ g 6 = pm 8 ∧ g 7 = pm 9
def gQ (pm : Nat → Int32) (ym : Nat → Nat → Int32) (a b c d : Int32) : Int32 := ((81 * f_m_numberOf pm ym (d - b)) + (9 * f_m_numberOf pm ym (b - c))) + f_m_numberOf pm ym (c - a)
theorem pu_num0 {pm : Nat → Int32} {ym : Nat → Nat → Int32} {v : Int32} (hT : RT pm) (hv : -65536 < v.toInt) (h : f_m_numberOf pm ym v = 0) : f_m_isNear pm ym v = 1 := by
  obtain ⟨⟨t1, t2⟩, ⟨t3, t4⟩, ⟨t5, t6, t7, t8⟩, _, _, _⟩ := hT
  have hs := pu_sizei (v := v) (by omega)
  have n3 : (-(pm 3)).toInt = -(pm 3).toInt := ti_neg (by omega)
  have key : -(pm 3).toInt ≤ v.toInt ∧ v.toInt ≤ (pm 3).toInt := by
    unfold f_m_numberOf at h
    repeat' split at h
    all_goals first
      | (exfalso; revert h; decide)
      | (rename_i h1 h2; rw [pu_lt] at h2; rw [pu_le, n3] at h1; omega)
  unfold f_m_isNear f_m_isNear_2
  rw [if_neg]
  rw [pu_lt, hs]; split <;> omega
theorem pu_gQ {pm : Nat → Int32} {ym : Nat → Nat → Int32} (a b c d : Int32) : (gQ pm ym a b c d).toInt = 81 * (f_m_numberOf pm ym (d - b)).toInt + 9 * (f_m_numberOf pm ym (b - c)).toInt + (f_m_numberOf pm ym (c - a)).toInt := by
  have n1 := f_m_numberOf_b (pm := pm) (ym := ym) (g := d - b) rfl
  have n2 := f_m_numberOf_b (pm := pm) (ym := ym) (g := b - c) rfl
  have n3 := f_m_numberOf_b (pm := pm) (ym := ym) (g := c - a) rfl
  unfold gQ
  generalize f_m_numberOf pm ym (d - b) = r1 at *
  generalize f_m_numberOf pm ym (b - c) = r2 at *
  generalize f_m_numberOf pm ym (c - a) = r3 at *
  have e81 : (81 : Int32).toInt = 81 := by decide
  have e9 : (9 : Int32).toInt = 9 := by decide
  have m1 : (81 * r1).toInt = 81 * r1.toInt := by rw [ti_mul (by rw [e81]; omega) (by rw [e81]; omega), e81]
  have m2 : (9 * r2).toInt = 9 * r2.toInt := by rw [ti_mul (by rw [e9]; omega) (by rw [e9]; omega), e9]
  have s1 : (81 * r1 + 9 * r2).toInt = 81 * r1.toInt + 9 * r2.toInt := by rw [ti_add (by rw [m1, m2]; omega) (by rw [m1, m2]; omega), m1, m2]
  rw [ti_add (by rw [s1]; omega) (by rw [s1]; omega), s1]
theorem pu_gQb {pm : Nat → Int32} {ym : Nat → Nat → Int32} {a b c d : Int32} (hT : RT pm) (ha : 0 ≤ a.toInt ∧ a.toInt ≤ 65535) (hb : 0 ≤ b.toInt ∧ b.toInt ≤ 65535) (hc : 0 ≤ c.toInt ∧ c.toInt ≤ 65535) (hd : 0 ≤ d.toInt ∧ d.toInt ≤ 65535)
    (h : fl3 pm ym a b c d = 0) : 1 ≤ (f_m_size (gQ pm ym a b c d)).toInt ∧ (f_m_size (gQ pm ym a b c d)).toInt ≤ 364 := by
  have n1 := f_m_numberOf_b (pm := pm) (ym := ym) (g := d - b) rfl
  have n2 := f_m_numberOf_b (pm := pm) (ym := ym) (g := b - c) rfl
  have n3 := f_m_numberOf_b (pm := pm) (ym := ym) (g := c - a) rfl
  have hq := pu_gQ (pm := pm) (ym := ym) a b c d
  have hs := pu_sizei (v := gQ pm ym a b c d) (by omega)
  have hne : (gQ pm ym a b c d).toInt ≠ 0 := by
    intro h0
    have z1 : f_m_numberOf pm ym (d - b) = 0 := pu_eq.2 (by rw [ti_0]; omega)
    have z2 : f_m_numberOf pm ym (b - c) = 0 := pu_eq.2 (by rw [ti_0]; omega)
    have z3 : f_m_numberOf pm ym (c - a) = 0 := pu_eq.2 (by rw [ti_0]; omega)
    have y1 := pu_num0 hT (by rw [ti_sub (by omega) (by omega)]; omega) z1
    have y2 := pu_num0 hT (by rw [ti_sub (by omega) (by omega)]; omega) z2
    have y3 := pu_num0 hT (by rw [ti_sub (by omega) (by omega)]; omega) z3
    unfold fl3 at h
    rw [y1, y2, y3, if_neg (by decide), if_neg (by decide), if_neg (by decide)] at h
    exact absurd h (by decide)
  rw [hs]; split <;> omega
theorem pu_eg {g pm o : Nat → Int32} {x ym : Nat → Nat → Int32} (hG : RG g pm) (hT : RT pm) (ha : 0 ≤ (o 0).toInt ∧ (o 0).toInt ≤ 65535) (hb : 0 ≤ (o 1).toInt ∧ (o 1).toInt ≤ 65535) (hc : 0 ≤ (o 2).toInt ∧ (o 2).toInt ≤ 65535) (hd : 0 ≤ (o 3).toInt ∧ (o 3).toInt ≤ 65535)
    (h : fl3 pm ym (o 0) (o 1) (o 2) (o 3) = 0) :
    f_expectByGradients g x o = mk9 (o 0) (o 1) (o 2) (o 3) (o 4) (f_m_size (gQ pm ym (o 0) (o 1) (o 2) (o 3))) (if 0 ≤ gQ pm ym (o 0) (o 1) (o 2) (o 3) then 1 else -1)
      (if 0 ≤ gQ pm ym (o 0) (o 1) (o 2) (o 3) then f_m_brought (f_median o + 1 * x 2 (f_m_size (gQ pm ym (o 0) (o 1) (o 2) (o 3))).toNatClampNeg) 0 (pm 2) else f_m_brought (f_median o + (-1) * x 2 (f_m_size (gQ pm ym (o 0) (o 1) (o 2) (o 3))).toNatClampNeg) 0 (pm 2)) (o 8) := by
  have hq := pu_gQb hT ha hb hc hd h
  obtain ⟨g0, g1, g2, g3, g4, g5, g6, g7⟩ := hG
  obtain ⟨⟨t1, t2⟩, ⟨t3, t4⟩, ⟨t5, t6, t7, t8⟩, _, _, _⟩ := hT
  have st : ∀ v : Int32, -65536 < v.toInt → f_steepness g v = f_m_numberOf pm ym v := fun v hv => pu_steep g1 g4 g5 g6 t1 t5 t6 t7 hv
  unfold f_expectByGradients f_expectByGradients_2 f_expectByGradients_4
  rw [st _ (by rw [ti_sub (by omega) (by omega)]; omega), st _ (by rw [ti_sub (by omega) (by omega)]; omega), st _ (by rw [ti_sub (by omega) (by omega)]; omega)]
  unfold f_expectByGradients_6
  change (if 0 ≤ gQ pm ym (o 0) (o 1) (o 2) (o 3) then _ else _) = _
  have hcor : ∀ q : Int32, q = f_m_size (gQ pm ym (o 0) (o 1) (o 2) (o 3)) → f_correction g x q = x 2 (f_m_size (gQ pm ym (o 0) (o 1) (o 2) (o 3))).toNatClampNeg := fun q e => by
    subst e
    unfold f_correction f_correction_2
    rw [pu_has hq.1 (by omega), if_neg (by decide)]
  by_cases c : 0 ≤ gQ pm ym (o 0) (o 1) (o 2) (o 3)
  · rw [if_pos c, if_pos c, if_pos c]
    have e1 : 1 * gQ pm ym (o 0) (o 1) (o 2) (o 3) = f_m_size (gQ pm ym (o 0) (o 1) (o 2) (o 3)) := by
      unfold f_m_size; rw [if_pos c, Int32.one_mul]
    unfold f_expectByGradients_9 f_expectByGradients_11 f_expectByGradients_13
    change mk9 _ _ _ _ _ (1 * gQ pm ym (o 0) (o 1) (o 2) (o 3)) 1 (f_asSample g (f_median o + 1 * f_correction g x (1 * gQ pm ym (o 0) (o 1) (o 2) (o 3)))) _ = _
    rw [hcor _ e1, e1, pu_asSample g0 (by omega)]
  · rw [if_neg c, if_neg c, if_neg c]
    have e1 : (-1) * gQ pm ym (o 0) (o 1) (o 2) (o 3) = f_m_size (gQ pm ym (o 0) (o 1) (o 2) (o 3)) := by
      unfold f_m_size; rw [if_neg c, Int32.neg_mul, Int32.one_mul]
    unfold f_expectByGradients_15 f_expectByGradients_17 f_expectByGradients_19
    change mk9 _ _ _ _ _ ((-1) * gQ pm ym (o 0) (o 1) (o 2) (o 3)) (-1) (f_asSample g (f_median o + (-1) * f_correction g x ((-1) * gQ pm ym (o 0) (o 1) (o 2) (o 3)))) _ = _
    rw [hcor _ e1, e1, pu_asSample g0 (by omega)]
theorem pu_ix {v x : Int32} {s : Nat} (hv : (v = 0 ∧ s = 0) ∨ (v = 1 ∧ s = 1)) (h0 : 0 ≤ x.toInt) (h1 : x.toInt < 65536) :
    ((65536 * v) + x).toNatClampNeg = 65536 * s + x.toNatClampNeg ∧ (¬ x = 0 → (((65536 * v) + x) - 1).toNatClampNeg = 65536 * s + x.toNatClampNeg - 1) ∧ (((65536 * v) + x) + 1).toNatClampNeg = 65536 * s + x.toNatClampNeg + 1 := by
  have hv' : v = 0 ∨ v = 1 := by rcases hv with h | h; exact Or.inl h.1; exact Or.inr h.1
  have hs : v.toInt = s := by rcases hv with ⟨h, k⟩ | ⟨h, k⟩ <;> subst h <;> subst k <;> decide
  obtain ⟨e, -, -⟩ := vm_i0 hv' h0 h1
  have hcl : x.toNatClampNeg = x.toInt.toNat := rfl
  have hs1 : (s : Int) ≤ 1 := by omega
  refine ⟨?_, fun hx => ?_, ?_⟩
  · show ((65536 * v) + x).toInt.toNat = _
    rw [e, hcl]; omega
  · rw [pu_eq, ti_0] at hx
    show (((65536 * v) + x) - 1).toInt.toNat = _
    rw [ti_sub (by rw [e, ti_1]; omega) (by rw [e, ti_1]; omega), e, ti_1, hcl]; omega
  · show (((65536 * v) + x) + 1).toInt.toNat = _
    rw [ti_add (by rw [e, ti_1]; omega) (by rw [e, ti_1]; omega), e, ti_1, hcl]; omega
theorem pu_ixc {v q : Int32} {s : Nat} (hv : (v = 0 ∧ s = 0) ∨ (v = 1 ∧ s = 1)) (h0 : 0 ≤ q.toInt) (h1 : q.toInt ≤ 366) : ((367 * v) + q).toNatClampNeg = 367 * s + q.toNatClampNeg := by
  have hs : v.toInt = s := by rcases hv with ⟨h, k⟩ | ⟨h, k⟩ <;> subst h <;> subst k <;> decide
  have hs1 : (s : Int) ≤ 1 := by rcases hv with ⟨h, k⟩ | ⟨h, k⟩ <;> subst k <;> decide
  have e3 : (367 : Int32).toInt = 367 := by decide
  have m : (367 * v).toInt = 367 * s := by rw [ti_mul (by rw [e3, hs]; omega) (by rw [e3, hs]; omega), e3, hs]
  show ((367 * v) + q).toInt.toNat = 367 * s + q.toInt.toNat
  rw [ti_add (by rw [m]; omega) (by rw [m]; omega), m]; omega
theorem pu_cl {v : Int32} {s : Nat} (hv : (v = 0 ∧ s = 0) ∨ (v = 1 ∧ s = 1)) : v.toNatClampNeg = s := by
  rcases hv with ⟨h, k⟩ | ⟨h, k⟩ <;> subst h <;> subst k <;> decide
theorem pu_m1 {pm : Nat → Int32} {ym : Nat → Nat → Int32} {v : Int32} {s : Nat} (hv : (v = 0 ∧ s = 0) ∨ (v = 1 ∧ s = 1)) (h0 : 0 ≤ (ym 3 s).toInt) (h1 : (ym 3 s).toInt < 65536) :
    f_m_look pm ym v = f_m_look_j50 pm ym v (mk22 (pm 0) (pm 1) (pm 2) (pm 3) (pm 4) (pm 5) (pm 6) (pm 7) (pm 8) (pm 9) (pm 10) (nbA ym s) (nbB ym s) (nbC ym s) (nbD ym s (pm 1)) (pm 15) (pm 16) (pm 17) (pm 18) (pm 19) (pm 20) (pm 21)) := by
  obtain ⟨i0, i1, i2⟩ := pu_ix hv h0 h1
  unfold f_m_look nbA nbB nbC nbD
  rw [pu_cl hv]
  by_cases c : ym 3 s = 0
  · by_cases c1 : ym 3 s + 1 = pm 1
    · simp only [if_pos c, if_pos c1, i0]
    · simp only [if_pos c, if_neg c1, i0, i2]
  · by_cases c1 : ym 3 s + 1 = pm 1
    · simp only [if_neg c, if_pos c1, i0, i1 c]
    · simp only [if_neg c, if_neg c1, i0, i1 c, i2]
theorem pu_m2 {pm pj : Nat → Int32} {ym : Nat → Nat → Int32} {v : Int32} {s : Nat} (hv : (v = 0 ∧ s = 0) ∨ (v = 1 ∧ s = 1)) :
    f_m_look_j50 pm ym v pj = f_m_look_j1 pm ym v (mk22 (pj 0) (pj 1) (pj 2) (pj 3) (pj 4) (pj 5) (pj 6) (pj 7) (pj 8) (pj 9) (pj 10) (pj 11) (pj 12) (pj 13) (pj 14) (if ym 5 s = 0 then fl3 pj ym (pj 11) (pj 12) (pj 13) (pj 14) else 1) (pj 16) (pj 17) (pj 18) (pj 19) (pj 20) (pj 21)) := by
  unfold f_m_look_j50 f_m_look_53 f_m_look_56 f_m_look_59 fl3
  rw [pu_cl hv]
  by_cases c : ym 5 s = 0
  · rw [if_pos c, if_pos c]
    by_cases d1 : f_m_isNear pj ym (pj 14 - pj 12) = 0
    · rw [if_pos d1, if_pos d1]
    · rw [if_neg d1, if_neg d1]
      by_cases d2 : f_m_isNear pj ym (pj 12 - pj 13) = 0
      · rw [if_pos d2, if_pos d2]
      · rw [if_neg d2, if_neg d2]
        by_cases d3 : f_m_isNear pj ym (pj 13 - pj 11) = 0
        · rw [if_pos d3, if_pos d3]
        · rw [if_neg d3, if_neg d3]
  · rw [if_neg c, if_neg c]
theorem pu_m3 {pm pj o : Nat → Int32} {ym : Nat → Nat → Int32} {v : Int32} (c : pj 15 = 0) (o0 : o 0 = pj 11) (o1 : o 1 = pj 12) (o2 : o 2 = pj 13) :
    f_m_look_j1 pm ym v pj = (mk22 (pj 0) (pj 1) (pj 2) (pj 3) (pj 4) (pj 5) (pj 6) (pj 7) (pj 8) (pj 9) (pj 10) (pj 11) (pj 12) (pj 13) (pj 14) (pj 15) (f_m_size (gQ pj ym (pj 11) (pj 12) (pj 13) (pj 14))) (if 0 ≤ gQ pj ym (pj 11) (pj 12) (pj 13) (pj 14) then f_m_brought (f_median o + (1 * ym 9 ((367 * v) + f_m_size (gQ pj ym (pj 11) (pj 12) (pj 13) (pj 14))).toNatClampNeg)) 0 (pj 2) else f_m_brought (f_median o + ((-1) * ym 9 ((367 * v) + f_m_size (gQ pj ym (pj 11) (pj 12) (pj 13) (pj 14))).toNatClampNeg)) 0 (pj 2)) (if 0 ≤ gQ pj ym (pj 11) (pj 12) (pj 13) (pj 14) then 1 else -1) (pj 19) (pj 20) (pj 21)) := by
  unfold f_m_look_j1
  rw [if_pos c]
  unfold f_m_look_4 f_m_look_6 f_m_look_8
  change (if 0 ≤ gQ pj ym (pj 11) (pj 12) (pj 13) (pj 14) then f_m_look_11 pm ym v pj _ _ _ (f_m_size (gQ pj ym (pj 11) (pj 12) (pj 13) (pj 14))) else f_m_look_27 pm ym v pj _ _ _ (f_m_size (gQ pj ym (pj 11) (pj 12) (pj 13) (pj 14)))) = _
  by_cases c : 0 ≤ gQ pj ym (pj 11) (pj 12) (pj 13) (pj 14)
  · rw [if_pos c, if_pos c, if_pos c]
    unfold f_m_look_11
    exact pu_med o0 o1 o2 (fun md => f_m_look_j12 pm ym v pj _ _ _ _ md) _ rfl
  · rw [if_neg c, if_neg c, if_neg c]
    unfold f_m_look_27
    exact pu_med o0 o1 o2 (fun md => f_m_look_j28 pm ym v pj _ _ _ _ md) _ rfl
theorem pu_m4 {pm pj : Nat → Int32} {ym : Nat → Nat → Int32} {v : Int32} (c : ¬ pj 15 = 0) :
    f_m_look_j1 pm ym v pj = (mk22 (pj 0) (pj 1) (pj 2) (pj 3) (pj 4) (pj 5) (pj 6) (pj 7) (pj 8) (pj 9) (pj 10) (pj 11) (pj 12) (pj 13) (pj 14) (pj 15) (if f_m_isNear pj ym (pj 11 - pj 12) = 0 then 365 else 366) (if f_m_isNear pj ym (pj 11 - pj 12) = 0 then pj 12 else pj 11) (if f_m_isNear pj ym (pj 11 - pj 12) = 0 then (if pj 11 ≤ pj 12 then 1 else -1) else 1) (pj 19) (pj 20) (pj 21)) := by
  unfold f_m_look_j1
  rw [if_neg c]
  unfold f_m_look_43
  change (if f_m_isNear pj ym (pj 11 - pj 12) = 0 then _ else _) = _
  by_cases d : f_m_isNear pj ym (pj 11 - pj 12) = 0
  · simp only [if_pos d]
    by_cases e : pj 11 ≤ pj 12
    · rw [if_pos e, if_pos e]
    · rw [if_neg e, if_neg e]
  · simp only [if_neg d]
