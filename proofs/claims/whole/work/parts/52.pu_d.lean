def LkE (pm' e : Nat → Int32) : Prop := e 0 = pm' 11 ∧ e 1 = pm' 12 ∧ e 2 = pm' 13 ∧ e 3 = pm' 14 ∧ e 4 = 1 ∧ e 5 = pm' 16 ∧ e 6 = pm' 18 ∧ e 7 = pm' 17 ∧ (pm' 16 = 365 ∨ pm' 16 = 366)
def LK (g pm o' pm' : Nat → Int32) : Prop :=
  (o' 0 = pm' 11 ∧ o' 1 = pm' 12 ∧ o' 2 = pm' 13 ∧ o' 3 = pm' 14) ∧ vm_kp pm pm' ∧
  (0 ≤ (pm' 11).toInt ∧ (pm' 11).toInt ≤ (pm 2).toInt) ∧ (pm' 18 = 1 ∨ pm' 18 = -1) ∧ (0 ≤ (pm' 17).toInt ∧ (pm' 17).toInt ≤ (pm 2).toInt) ∧ (1 ≤ (pm' 16).toInt ∧ (pm' 16).toInt ≤ 366) ∧
  ((o' 4 = 1 ∧ pm' 15 = 1 ∧ o' 5 = 0 ∧ o' 7 = pm' 11 ∧ LkE pm' (f_expectEnd g o')) ∨ (o' 4 = 0 ∧ pm' 15 = 0 ∧ o' 5 = pm' 16 ∧ o' 6 = pm' 18 ∧ o' 7 = pm' 17))
theorem pu_ee {g pm o : Nat → Int32} {ym : Nat → Nat → Int32} (e1 : g 1 = pm 3) :
    f_expectEnd g o = mk9 (o 0) (o 1) (o 2) (o 3) (o 4) (if f_m_isNear pm ym (o 0 - o 1) = 0 then 365 else 366) (if f_m_isNear pm ym (o 0 - o 1) = 0 then (if o 0 ≤ o 1 then 1 else -1) else 1) (if f_m_isNear pm ym (o 0 - o 1) = 0 then o 1 else o 0) (o 8) := by
  unfold f_expectEnd f_expectEnd_2
  rw [pu_flat (ym := ym) e1]
  by_cases d : f_m_isNear pm ym (o 0 - o 1) = 0
  · simp only [if_pos d]
    by_cases e : o 0 ≤ o 1
    · rw [if_pos e, if_pos e]
    · rw [if_neg e, if_neg e]
  · simp only [if_neg d]
theorem pu_LOOK {s k n : Nat} {g pm d rr o : Nat → Int32} {x ym : Nat → Nat → Int32} {v : Int32} (hv : (v = 0 ∧ s = 0) ∨ (v = 1 ∧ s = 1)) (hG : RG g pm) (hT : RT pm)
    (hS : RS s k n (pm 2) (pm 1) d rr ym) (hW : RW n (pm 1)) (hC : RC s x ym) (hk : k < 512) (hp : (d 1).toInt < (pm 1).toInt) : LK g pm (f_lookAhead n g x d rr o) (f_m_look pm ym v) := by
  obtain ⟨nB, nA, nC, nD⟩ := pu_nb hS hW hk hp
  obtain ⟨bA, bB, bC, bD⟩ := pu_nbb hS hW hp
  have g1 := hG.2.1
  have hla := pu_la (n := n) (g := g) (d := d) (rr := rr) (o := o) (x := x) (ym := ym) (pm := pm) g1 nB nA nC nD
  obtain ⟨⟨a0, a1, a2, a3, a3'⟩, ⟨b1, b2, b3⟩, _⟩ := hS
  rw [pu_m1 hv (by rw [← a1]; exact b1) (by rw [← a1]; have := hW.2.1; omega), pu_m2 hv]
  change LK g pm _ (f_m_look_j1 pm ym v (mk22 (pm 0) (pm 1) (pm 2) (pm 3) (pm 4) (pm 5) (pm 6) (pm 7) (pm 8) (pm 9) (pm 10) (nbA ym s) (nbB ym s) (nbC ym s) (nbD ym s (pm 1)) (if ym 5 s = 0 then fl3 pm ym (nbA ym s) (nbB ym s) (nbC ym s) (nbD ym s (pm 1)) else 1) (pm 16) (pm 17) (pm 18) (pm 19) (pm 20) (pm 21)))
  have hmx : (pm 2).toInt ≤ 65535 := hT.2.1.2
  generalize nbA ym s = a at *
  generalize nbB ym s = b at *
  generalize nbC ym s = c at *
  generalize nbD ym s (pm 1) = dd at *
  rw [← a3]
  by_cases cr : (if d 3 = 0 then fl3 pm ym a b c dd else 1) = 0
  · have c3 : d 3 = 0 := by
      by_cases q : d 3 = 0
      · exact q
      · rw [if_neg q] at cr; exact absurd cr (by decide)
    have cf : fl3 pm ym a b c dd = 0 := by rw [if_pos c3] at cr; exact cr
    have hE := pu_eg (g := g) (pm := pm) (x := x) (ym := ym) (o := mk9 a b c dd 0 (o 5) (o 6) (o 7) (o 8)) hG hT (by show 0 ≤ a.toInt ∧ a.toInt ≤ 65535; omega) (by show 0 ≤ b.toInt ∧ b.toInt ≤ 65535; omega) (by show 0 ≤ c.toInt ∧ c.toInt ≤ 65535; omega) (by show 0 ≤ dd.toInt ∧ dd.toInt ≤ 65535; omega) cf
    have hq := pu_gQb (pm := pm) (ym := ym) (a := a) (b := b) (c := c) (d := dd) hT (by omega) (by omega) (by omega) (by omega) cf
    have hM := pu_m3 (pm := pm) (ym := ym) (v := v) (pj := mk22 (pm 0) (pm 1) (pm 2) (pm 3) (pm 4) (pm 5) (pm 6) (pm 7) (pm 8) (pm 9) (pm 10) a b c dd (if d 3 = 0 then fl3 pm ym a b c dd else 1) (pm 16) (pm 17) (pm 18) (pm 19) (pm 20) (pm 21)) (o := mk9 a b c dd 0 (o 5) (o 6) (o 7) (o 8)) cr rfl rfl rfl
    rw [hM]
    have hla' : ∀ i : Nat, i < 9 → f_lookAhead n g x d rr o i = f_expectByGradients g x (mk9 a b c dd 0 (o 5) (o 6) (o 7) (o 8)) i := fun i hi => by rw [hla i hi, if_pos cr]
    have hix := pu_ixc (q := f_m_size (gQ pm ym a b c dd)) hv (by omega) (by omega)
    have hx2 : x 2 (f_m_size (gQ pm ym a b c dd)).toNatClampNeg = ym 9 ((367 * v) + f_m_size (gQ pm ym a b c dd)).toNatClampNeg := by
      rw [hix]; exact (hC _ (by show (f_m_size (gQ pm ym a b c dd)).toInt.toNat < 367; omega)).2.2.1
    have f0 : f_lookAhead n g x d rr o 0 = a := by rw [hla' 0 (by omega), hE]; rfl
    have f1 : f_lookAhead n g x d rr o 1 = b := by rw [hla' 1 (by omega), hE]; rfl
    have f2 : f_lookAhead n g x d rr o 2 = c := by rw [hla' 2 (by omega), hE]; rfl
    have f3 : f_lookAhead n g x d rr o 3 = dd := by rw [hla' 3 (by omega), hE]; rfl
    have f4 : f_lookAhead n g x d rr o 4 = 0 := by rw [hla' 4 (by omega), hE]; rfl
    have f5 : f_lookAhead n g x d rr o 5 = f_m_size (gQ pm ym a b c dd) := by rw [hla' 5 (by omega), hE]; rfl
    have f6 : f_lookAhead n g x d rr o 6 = if 0 ≤ gQ pm ym a b c dd then 1 else -1 := by rw [hla' 6 (by omega), hE]; rfl
    have f7 : f_lookAhead n g x d rr o 7 = if 0 ≤ gQ pm ym a b c dd then f_m_brought (f_median (mk9 a b c dd 0 (o 5) (o 6) (o 7) (o 8)) + 1 * ym 9 ((367 * v) + f_m_size (gQ pm ym a b c dd)).toNatClampNeg) 0 (pm 2) else f_m_brought (f_median (mk9 a b c dd 0 (o 5) (o 6) (o 7) (o 8)) + (-1) * ym 9 ((367 * v) + f_m_size (gQ pm ym a b c dd)).toNatClampNeg) 0 (pm 2) := by
      rw [hla' 7 (by omega), hE, ← hx2]; rfl
    refine ⟨⟨f0, f1, f2, f3⟩, ⟨rfl, rfl, rfl, rfl, rfl, rfl, rfl, rfl, rfl, rfl, rfl, rfl, rfl, rfl⟩, bA, ?_, ?_, ⟨hq.1, by show (f_m_size (gQ pm ym a b c dd)).toInt ≤ 366; omega⟩, Or.inr ⟨f4, cr, f5, f6, f7⟩⟩
    · show (if 0 ≤ gQ pm ym a b c dd then (1 : Int32) else -1) = 1 ∨ (if 0 ≤ gQ pm ym a b c dd then (1 : Int32) else -1) = -1
      split
      · exact Or.inl rfl
      · exact Or.inr rfl
    · have key : ∀ u : Int32, 0 ≤ (f_m_brought u 0 (pm 2)).toInt ∧ (f_m_brought u 0 (pm 2)).toInt ≤ (pm 2).toInt := fun u => by
        have := f_m_brought_b (v := u) (lo := 0) (hi := pm 2) (by rw [ti_0]; have := hT.2.1.1; omega) rfl
        rw [ti_0] at this; exact this
      show 0 ≤ (if 0 ≤ gQ pm ym a b c dd then f_m_brought (f_median (mk9 a b c dd 0 (o 5) (o 6) (o 7) (o 8)) + 1 * ym 9 ((367 * v) + f_m_size (gQ pm ym a b c dd)).toNatClampNeg) 0 (pm 2) else f_m_brought (f_median (mk9 a b c dd 0 (o 5) (o 6) (o 7) (o 8)) + (-1) * ym 9 ((367 * v) + f_m_size (gQ pm ym a b c dd)).toNatClampNeg) 0 (pm 2)).toInt ∧ (if 0 ≤ gQ pm ym a b c dd then f_m_brought (f_median (mk9 a b c dd 0 (o 5) (o 6) (o 7) (o 8)) + 1 * ym 9 ((367 * v) + f_m_size (gQ pm ym a b c dd)).toNatClampNeg) 0 (pm 2) else f_m_brought (f_median (mk9 a b c dd 0 (o 5) (o 6) (o 7) (o 8)) + (-1) * ym 9 ((367 * v) + f_m_size (gQ pm ym a b c dd)).toNatClampNeg) 0 (pm 2)).toInt ≤ (pm 2).toInt
      split
      · exact key _
      · exact key _
  · have hM := pu_m4 (pm := pm) (ym := ym) (v := v) (pj := mk22 (pm 0) (pm 1) (pm 2) (pm 3) (pm 4) (pm 5) (pm 6) (pm 7) (pm 8) (pm 9) (pm 10) a b c dd (if d 3 = 0 then fl3 pm ym a b c dd else 1) (pm 16) (pm 17) (pm 18) (pm 19) (pm 20) (pm 21)) cr
    rw [hM]
    have cr1 : (if d 3 = 0 then fl3 pm ym a b c dd else 1) = 1 := by
      revert cr
      unfold fl3
      repeat' split
      all_goals first | exact fun _ => rfl | exact fun h => absurd rfl h
    have hla' : ∀ i : Nat, i < 9 → f_lookAhead n g x d rr o i = mk9 a b c dd 1 0 1 a (o 8) i := fun i hi => by rw [hla i hi, if_neg cr]
    have f0 : f_lookAhead n g x d rr o 0 = a := hla' 0 (by omega)
    have f1 : f_lookAhead n g x d rr o 1 = b := hla' 1 (by omega)
    have f2 : f_lookAhead n g x d rr o 2 = c := hla' 2 (by omega)
    have f3 : f_lookAhead n g x d rr o 3 = dd := hla' 3 (by omega)
    have f4 : f_lookAhead n g x d rr o 4 = 1 := hla' 4 (by omega)
    have f5 : f_lookAhead n g x d rr o 5 = 0 := hla' 5 (by omega)
    have f7 : f_lookAhead n g x d rr o 7 = a := hla' 7 (by omega)
    have hEE := pu_ee (g := g) (pm := pm) (o := f_lookAhead n g x d rr o) (ym := ym) g1
    rw [f0, f1, f2, f3, f4] at hEE
    refine ⟨⟨f0, f1, f2, f3⟩, ⟨rfl, rfl, rfl, rfl, rfl, rfl, rfl, rfl, rfl, rfl, rfl, rfl, rfl, rfl⟩, bA, ?_, ?_, ?_, Or.inl ⟨f4, cr1, f5, f7, ?_⟩⟩
    · show (if f_m_isNear pm ym (a - b) = 0 then (if a ≤ b then (1 : Int32) else -1) else 1) = 1 ∨ (if f_m_isNear pm ym (a - b) = 0 then (if a ≤ b then (1 : Int32) else -1) else 1) = -1
      repeat' split
      all_goals first | exact Or.inl rfl | exact Or.inr rfl
    · show 0 ≤ (if f_m_isNear pm ym (a - b) = 0 then b else a).toInt ∧ (if f_m_isNear pm ym (a - b) = 0 then b else a).toInt ≤ (pm 2).toInt
      split
      · exact bB
      · exact bA
    · show 1 ≤ (if f_m_isNear pm ym (a - b) = 0 then (365 : Int32) else 366).toInt ∧ (if f_m_isNear pm ym (a - b) = 0 then (365 : Int32) else 366).toInt ≤ 366
      split <;> decide
    · rw [hEE]
      refine ⟨rfl, rfl, rfl, rfl, rfl, rfl, rfl, rfl, ?_⟩
      show (if f_m_isNear pm ym (a - b) = 0 then (365 : Int32) else 366) = 365 ∨ (if f_m_isNear pm ym (a - b) = 0 then (365 : Int32) else 366) = 366
      split
      · exact Or.inl rfl
      · exact Or.inr rfl
theorem pu_keep {n : Nat} {d rr : Nat → Int32} {v w b : Int32} (h5 : n ≤ 512) (h0 : 0 ≤ (d 1).toInt) (hp : (d 1).toInt.toNat < n) (hb : f_rowAt n d rr (d 1) = b) :
    f_keep n d rr v w = (mk6 (d 0) (d 1 + 1) (d 2) w b (if d 1 = 0 then b else d 5), upd rr (d 1).toNatClampNeg v) := by
  unfold f_keep f_keep_2
  rw [hb]
  have c1 : ¬ d 1 < 0 := by rw [pu_lt, ti_0]; omega
  have c2 : ¬ nI n ≤ d 1 := by rw [pu_le, pu_nI h5]; omega
  simp only [if_neg c1, if_neg c2]
  by_cases c : d 1 = 0
  · rw [if_pos c, if_pos c]
  · rw [if_neg c, if_neg c]
theorem pu_tell {n : Nat} {z d rr o : Nat → Int32} {v w b : Int32} (h5 : n ≤ 512) (h0 : 0 ≤ (d 1).toInt) (hp : (d 1).toInt.toNat < n) (hb : f_rowAt n d rr (d 1) = b) :
    f_tell n z d rr o v w = (mk2 (if o 4 = 0 then z 0 else if d 3 = 0 then z 0 + 1 else z 0) 1, mk6 (d 0) (d 1 + 1) (d 2) w b (if d 1 = 0 then b else d 5), upd rr (d 1).toNatClampNeg v, mk9 (o 0) (o 1) (o 2) (o 3) (o 4) (o 5) (o 6) (o 7) v) := by
  unfold f_tell f_tell_3 f_tell_6 f_tell_8
  rw [pu_keep h5 h0 hp hb]
  by_cases c : o 4 = 0
  · rw [if_pos c, if_pos c]; rfl
  · rw [if_neg c, if_neg c]
    by_cases c3 : d 3 = 0
    · rw [if_pos c3, if_pos c3]; rfl
    · rw [if_neg c3, if_neg c3]; rfl
theorem pu_lay {pm : Nat → Int32} {ym : Nat → Nat → Int32} {v w : Int32} {s : Nat} (hv : (v = 0 ∧ s = 0) ∨ (v = 1 ∧ s = 1)) (h0 : 0 ≤ (ym 3 s).toInt) (h1 : (ym 3 s).toInt < 65536) :
    f_m_lay pm ym v w = ((mk22 (pm 0) (pm 1) (pm 2) (pm 3) (pm 4) (pm 5) (pm 6) (pm 7) (pm 8) (pm 9) (if pm 15 = 0 then pm 10 else if ym 5 s = 0 then pm 10 + 1 else pm 10) (pm 11) (pm 12) (pm 13) (pm 14) (pm 15) (pm 16) (pm 17) (pm 18) (pm 19) (if w = 0 then pm 16 else 0) (if w = 0 then pm 17 else pm 11)), (mky (upd (ym 0) (65536 * s + (ym 3 s).toNatClampNeg) (pm 19)) (ym 1) (ym 2) (upd (ym 3) s (ym 3 s + 1)) (ym 4) (upd (ym 5) s (vp_nar .boolean w)) (ym 6) (ym 7) (ym 8) (ym 9) (upd (upd (upd (upd (upd (ym 10) 0 (pm 11)) 1 (pm 12)) 2 (pm 13)) 3 (pm 14)) 4 (pm 19)))) := by
  obtain ⟨i0, -, -⟩ := pu_ix hv h0 h1
  have key : ∀ pj : Nat → Int32, f_m_lay_j1 pm ym v w pj = ((mk22 (pj 0) (pj 1) (pj 2) (pj 3) (pj 4) (pj 5) (pj 6) (pj 7) (pj 8) (pj 9) (pj 10) (pj 11) (pj 12) (pj 13) (pj 14) (pj 15) (pj 16) (pj 17) (pj 18) (pj 19) (if w = 0 then pj 16 else 0) (if w = 0 then pj 17 else pj 11)), (mky (upd (ym 0) (65536 * s + (ym 3 s).toNatClampNeg) (pj 19)) (ym 1) (ym 2) (upd (ym 3) s (ym 3 s + 1)) (ym 4) (upd (ym 5) s (vp_nar .boolean w)) (ym 6) (ym 7) (ym 8) (ym 9) (upd (upd (upd (upd (upd (ym 10) 0 (pj 11)) 1 (pj 12)) 2 (pj 13)) 3 (pj 14)) 4 (pj 19)))) := fun pj => by
    unfold f_m_lay_j1 f_m_lay_5 f_m_lay_12 f_m_noteLast
    rw [pu_cl hv, i0]
    by_cases c : w = 0
    · rw [if_pos c, if_pos c, if_pos c, if_pos c]; rfl
    · rw [if_neg c, if_neg c, if_neg c, if_neg c]; rfl
  unfold f_m_lay
  rw [key, key, pu_cl hv, Int32.add_zero]
  by_cases c : pm 15 = 0
  · rw [if_pos c, if_pos c]; rfl
  · rw [if_neg c, if_neg c]
    by_cases c3 : ym 5 s = 0
    · rw [if_pos c3, if_pos c3]; rfl
    · rw [if_neg c3, if_neg c3]; rfl
theorem pu_rst {s k n : Nat} {mx wd : Int32} {d rr : Nat → Int32} {ym : Nat → Nat → Int32} {v w : Int32} {Y0 : Nat → Nat → Int32} (hs : s ≤ 1) (h : RS s k n mx wd d rr ym) (hW : RW n wd) (hk : k < 512) (hp : (d 1).toInt < wd.toInt)
    (hw : w = 0 ∨ w = 1) (hv : 0 ≤ v.toInt ∧ v.toInt ≤ mx.toInt)
    (y0 : Y0 0 = upd (ym 0) (65536 * s + (ym 3 s).toNatClampNeg) v) (y1 : Y0 1 = ym 1) (y2 : Y0 2 = ym 2) (y3 : Y0 3 = upd (ym 3) s (ym 3 s + 1)) (y4 : Y0 4 = ym 4) (y5 : Y0 5 = upd (ym 5) s (vp_nar .boolean w)) :
    RS s (k + 1) n mx wd (mk6 (d 0) (d 1 + 1) (d 2) w (nbB ym s) (if d 1 = 0 then nbB ym s else d 5)) (upd rr (d 1).toNatClampNeg v) Y0 := by
  obtain ⟨⟨a0, a1, a2, a3, a3'⟩, ⟨b1, b2, b3⟩, b4, c4, c5, cr, cz, m1, m0, m2⟩ := h
  obtain ⟨w1, w2, w3, w4, w5, w6⟩ := hW
  have hcl : (d 1).toNatClampNeg = (d 1).toInt.toNat := rfl
  have hpn : (d 1).toInt.toNat < n := by
    by_cases c : wd.toInt ≤ 512
    · have := w5 c; omega
    · have := w6 (by omega); omega
  have e : (d 1 + 1).toInt = (d 1).toInt + 1 := by rw [ti_add (by rw [ti_1]; omega) (by rw [ti_1]; omega), ti_1]
  have ecl : (d 1 + 1).toNatClampNeg = (d 1).toInt.toNat + 1 := by show (d 1 + 1).toInt.toNat = _; rw [e]; omega
  have hne : ¬ d 1 + 1 = 0 := by rw [pu_eq, e, ti_0]; omega
  have hnar : vp_nar .boolean w = w := by rcases hw with rfl | rfl <;> rfl
  refine ⟨⟨a0, ?_, ?_, ?_, hw⟩, ⟨?_, ?_, ?_⟩, ⟨b4.1, ?_⟩, ?_, ?_, ?_, ?_, ?_, ?_, ?_⟩
  · show d 1 + 1 = Y0 3 s
    rw [y3, upd_at, a1]
  · show d 2 = Y0 4 s
    rw [y4, a2]
  · show w = Y0 5 s
    rw [y5, upd_at, hnar]
  · show 0 ≤ (d 1 + 1).toInt
    omega
  · show (d 1 + 1).toInt ≤ ((k + 1 : Nat) : Int)
    omega
  · show (d 1 + 1).toInt ≤ wd.toInt
    omega
  · show (d 2).toInt ≤ ((k + 1 : Nat) : Int)
    omega
  · show nbB ym s = if d 1 + 1 = 0 then Y0 2 s else Y0 1 (65536 * s + (d 1 + 1).toNatClampNeg - 1)
    rw [if_neg hne, y1, ecl]; unfold nbB; rw [← a1]; exact congrArg (ym 1) (by omega)
  · intro _
    show (if d 1 = 0 then nbB ym s else d 5) = Y0 1 (65536 * s)
    rw [y1]
    by_cases c : d 1 = 0
    · rw [if_pos c]; unfold nbB; rw [← a1, c]; rfl
    · rw [if_neg c, c5 c]
  · intro j hj
    show upd rr (d 1).toNatClampNeg v j = if j < (d 1 + 1).toNatClampNeg then Y0 0 (65536 * s + j) else Y0 1 (65536 * s + j)
    rw [ecl, y0, y1, ← a1]
    by_cases c : j = (d 1).toNatClampNeg
    · subst c
      rw [upd_at, if_pos (by omega), upd_at]
    · rw [upd_ne c, cr j hj]
      by_cases c2 : j < (d 1).toNatClampNeg
      · rw [if_pos c2, if_pos (by omega), upd_ne (by omega)]
      · rw [if_neg c2, if_neg (by omega)]
  · rw [y1]; exact cz
  · rw [y1]; exact m1
  · intro j hj
    rw [y0]
    by_cases c : 65536 * s + j = 65536 * s + (ym 3 s).toNatClampNeg
    · rw [c, upd_at]; exact hv
    · rw [upd_ne c]; exact m0 j hj
  · rw [y2]; exact m2
theorem pu_rso {s s' k n : Nat} {mx wd : Int32} {d rr : Nat → Int32} {ym Y0 : Nat → Nat → Int32} {v w x3 : Int32} {t : Nat} (hn : n ≤ 512) (hs : s ≤ 1) (hs' : s' ≤ 1) (hne : s' ≠ s) (h : RS s' k n mx wd d rr ym) (ht : t < 65536)
    (y0 : Y0 0 = upd (ym 0) (65536 * s + t) v) (y1 : Y0 1 = ym 1) (y2 : Y0 2 = ym 2) (y3 : Y0 3 = upd (ym 3) s x3) (y4 : Y0 4 = ym 4) (y5 : Y0 5 = upd (ym 5) s w) :
    RS s' (k + 1) n mx wd d rr Y0 := by
  obtain ⟨⟨a0, a1, a2, a3, a3'⟩, ⟨b1, b2, b3⟩, b4, c4, c5, cr, cz, m1, m0, m2⟩ := h
  have k0 : ∀ j, j < 65536 → Y0 0 (65536 * s' + j) = ym 0 (65536 * s' + j) := fun j hj => by rw [y0, upd_ne (by omega)]
  refine ⟨⟨a0, ?_, ?_, ?_, a3'⟩, ⟨b1, by omega, b3⟩, ⟨b4.1, by omega⟩, ?_, ?_, ?_, ?_, ?_, ?_, ?_⟩
  · rw [y3, upd_ne hne, a1]
  · rw [y4, a2]
  · rw [y5, upd_ne hne, a3]
  · rw [y1, y2]; exact c4
  · rw [y1]; exact c5
  · intro j hj
    rw [y1, cr j hj]
    by_cases c : j < (d 1).toNatClampNeg
    · rw [if_pos c, if_pos c, k0 j (by omega)]
    · rw [if_neg c, if_neg c]
  · rw [y1]; exact cz
  · rw [y1]; exact m1
  · intro j hj; rw [k0 j hj]; exact m0 j hj
  · rw [y2]; exact m2
theorem lb_01 (g : Nat → Int32) (x : Nat → Nat → Int32) (q : Int32) : f_leansBelow g x q = 0 ∨ f_leansBelow g x q = 1 := by
  unfold f_leansBelow f_leansBelow_2 f_leansBelow_7
  repeat' split
  all_goals first | exact Or.inl rfl | exact Or.inr rfl
theorem ta_01 (g : Nat → Int32) (x : Nat → Nat → Int32) (q : Int32) : f_turnsAbove g x q = 0 ∨ f_turnsAbove g x q = 1 := by
  unfold f_turnsAbove f_turnsAbove_2 f_turnsAbove_6
  repeat' split
  all_goals first | exact Or.inl rfl | exact Or.inr rfl
theorem lk_01 (q : Int32) : f_likeness q = 0 ∨ f_likeness q = 1 := by
  unfold f_likeness
  split
  · exact Or.inr rfl
  · exact Or.inl rfl
theorem pu_foldi {g : Nat → Int32} {x : Nat → Nat → Int32} {q v : Int32} (hv : -70000 ≤ v.toInt ∧ v.toInt ≤ 70000) :
    (f_fold g x q v).toInt = if f_endsRun q = 0 then (if f_leansBelow g x q = 0 then (if 0 ≤ v.toInt then 2 * v.toInt else -2 * v.toInt - 1) else (if 0 ≤ v.toInt then 2 * v.toInt + 1 else -2 * v.toInt - 2))
      else (if 0 ≤ v.toInt then 2 * v.toInt else -2 * v.toInt) - (if f_turnsAbove g x q = 0 then (if 0 ≤ v.toInt then 0 else 1) else (if v.toInt ≤ 0 then 0 else 1)) - (f_likeness q).toInt := by
  unfold f_fold f_fold_2 f_fold_5 f_fold_10 f_fold_12 f_turn f_turn_2
  rw [pu_size]
  have hs := pu_sizei (v := v) (by omega)
  have em2 : (-2 : Int32).toInt = -2 := by decide
  have d1 : (2 * v).toInt = 2 * v.toInt := by rw [ti_mul (by rw [ti_2]; omega) (by rw [ti_2]; omega), ti_2]
  have d2 : (-2 * v).toInt = -2 * v.toInt := by rw [ti_mul (by rw [em2]; omega) (by rw [em2]; omega), em2]
  have d3 : (v + 1).toInt = v.toInt + 1 := by rw [ti_add (by rw [ti_1]; omega) (by rw [ti_1]; omega), ti_1]
  have d4 : (-2 * (v + 1)).toInt = -2 * v.toInt - 2 := by rw [ti_mul (by rw [em2, d3]; omega) (by rw [em2, d3]; omega), em2, d3]; omega
  have d5 : (2 * v + 1).toInt = 2 * v.toInt + 1 := by rw [ti_add (by rw [ti_1, d1]; omega) (by rw [ti_1, d1]; omega), ti_1, d1]
  have d6 : (-2 * v - 1).toInt = -2 * v.toInt - 1 := by rw [ti_sub (by rw [ti_1, d2]; omega) (by rw [ti_1, d2]; omega), ti_1, d2]
  have hsz : (f_m_size v).toInt = if 0 ≤ v.toInt then v.toInt else -v.toInt := hs
  have hsb : 0 ≤ (f_m_size v).toInt ∧ (f_m_size v).toInt ≤ 70000 := by rw [hsz]; split <;> omega
  have d7 : (2 * f_m_size v).toInt = 2 * (f_m_size v).toInt := by rw [ti_mul (by rw [ti_2]; omega) (by rw [ti_2]; omega), ti_2]
  simp only [pu_le, ti_0]
  by_cases ce : f_endsRun q = 0
  · rw [if_pos ce, if_pos ce]
    by_cases cl : f_leansBelow g x q = 0
    · rw [if_pos cl, if_pos cl]
      split
      · exact d1
      · exact d6
    · rw [if_neg cl, if_neg cl]
      split
      · exact d5
      · exact d4
  · rw [if_neg ce, if_neg ce]
    have hlk : 0 ≤ (f_likeness q).toInt ∧ (f_likeness q).toInt ≤ 1 := by rcases lk_01 q with h | h <;> rw [h] <;> decide
    have htr : ∀ r : Int32, 0 ≤ r.toInt → r.toInt ≤ 1 → (2 * f_m_size v - r - f_likeness q).toInt = 2 * (f_m_size v).toInt - r.toInt - (f_likeness q).toInt := fun r h0 h1 => by
      have a1 : (2 * f_m_size v - r).toInt = 2 * (f_m_size v).toInt - r.toInt := by rw [ti_sub (by rw [d7]; omega) (by rw [d7]; omega), d7]
      rw [ti_sub (by rw [a1]; omega) (by rw [a1]; omega), a1]
    by_cases ct : f_turnsAbove g x q = 0
    · rw [if_pos ct, if_pos ct]
      split
      · rename_i h; rw [htr 0 (by decide) (by decide), hsz, if_pos h, ti_0]
      · rename_i h; rw [htr 1 (by decide) (by decide), hsz, if_neg h, ti_1]; omega
    · rw [if_neg ct, if_neg ct]
      split
      · rename_i h; rw [htr 0 (by decide) (by decide), hsz, ti_0]; split <;> omega
      · rename_i h; rw [htr 1 (by decide) (by decide), hsz, if_pos (by omega), if_pos (by omega), ti_1]
theorem pu_foldb {g : Nat → Int32} {x : Nat → Nat → Int32} {q v : Int32} (hv : -65800 ≤ v.toInt ∧ v.toInt ≤ 65800) : -1 ≤ (f_fold g x q v).toInt ∧ (f_fold g x q v).toInt ≤ 131700 := by
  have hlk : 0 ≤ (f_likeness q).toInt ∧ (f_likeness q).toInt ≤ 1 := by rcases lk_01 q with h | h <;> rw [h] <;> decide
  rw [pu_foldi (by omega)]
  repeat' split
  all_goals omega
theorem pu_unfoldi {g : Nat → Int32} {x : Nat → Nat → Int32} {q w : Int32} (hw : 0 ≤ w.toInt ∧ w.toInt ≤ 65536) :
    (f_unfold g x q w).toInt = if f_endsRun q = 0 then (if w.toInt / 2 * 2 = w.toInt then (if f_leansBelow g x q = 0 then w.toInt / 2 else -(w.toInt / 2) - 1) else (if f_leansBelow g x q = 0 then -(w.toInt / 2) - 1 else w.toInt / 2))
      else (if (w.toInt + (f_likeness q).toInt) / 2 * 2 = w.toInt + (f_likeness q).toInt then (if f_turnsAbove g x q = 0 then (w.toInt + (f_likeness q).toInt + 1) / 2 else -((w.toInt + (f_likeness q).toInt + 1) / 2)) else (if f_turnsAbove g x q = 0 then -((w.toInt + (f_likeness q).toInt + 1) / 2) else (w.toInt + (f_likeness q).toInt + 1) / 2)) := by
  unfold f_unfold f_unfold_2 f_unfold_6 f_unfold_9 f_unfold_12 f_unfoldEnd f_unfoldEnd_2 f_unfoldEnd_5 f_unfoldEnd_8
  have hlk : 0 ≤ (f_likeness q).toInt ∧ (f_likeness q).toInt ≤ 1 := by rcases lk_01 q with h | h <;> rw [h] <;> decide
  have key : ∀ u : Int32, 0 ≤ u.toInt → u.toInt ≤ 65540 → (u / 2).toInt = u.toInt / 2 ∧ ((u - u / 2 * 2 = 0) ↔ u.toInt / 2 * 2 = u.toInt) ∧ (-(u / 2)).toInt = -(u.toInt / 2) ∧ (-(u / 2) - 1).toInt = -(u.toInt / 2) - 1 := fun u h0 h1 => by
    have a : (u / 2).toInt = u.toInt / 2 := by rw [ti_div h0 (by rw [ti_2]; omega), ti_2]
    have b : (u / 2 * 2).toInt = u.toInt / 2 * 2 := by rw [ti_mul (by rw [a, ti_2]; omega) (by rw [a, ti_2]; omega), a, ti_2]
    have c : (u - u / 2 * 2).toInt = u.toInt - u.toInt / 2 * 2 := by rw [ti_sub (by rw [b]; omega) (by rw [b]; omega), b]
    have d : (-(u / 2)).toInt = -(u.toInt / 2) := by rw [ti_neg (by rw [a]; omega), a]
    refine ⟨a, ?_, d, ?_⟩
    · rw [pu_eq, c, ti_0]; omega
    · rw [ti_sub (by rw [d, ti_1]; omega) (by rw [d, ti_1]; omega), d, ti_1]
  obtain ⟨k1, k2, k3, k4⟩ := key w hw.1 (by omega)
  have e0 : (w + f_likeness q).toInt = w.toInt + (f_likeness q).toInt := ti_add (by omega) (by omega)
  obtain ⟨l1, l2, l3, l4⟩ := key (w + f_likeness q) (by rw [e0]; omega) (by rw [e0]; omega)
  have e1 : (w + f_likeness q + 1).toInt = w.toInt + (f_likeness q).toInt + 1 := by rw [ti_add (by rw [e0, ti_1]; omega) (by rw [e0, ti_1]; omega), e0, ti_1]
  obtain ⟨m1, m2, m3, m4⟩ := key (w + f_likeness q + 1) (by rw [e1]; omega) (by rw [e1]; omega)
  rw [e0] at l2
  rw [e1] at m1 m3
  have z10 : ¬ (1 : Int32) = 0 := by decide
  have z01 : ¬ (0 : Int32) = 1 := by decide
  by_cases ce : f_endsRun q = 0
  · simp only [if_pos ce, k2]
    rcases lb_01 g x q with h | h
    · simp only [h, z10, if_false, if_true]
      split
      · exact k1
      · exact k4
    · simp only [h, z10, z01, if_false, if_true]
      split
      · exact k4
      · exact k1
  · simp only [if_neg ce, l2]
    rcases ta_01 g x q with h | h
    · simp only [h, z10, if_false, if_true]
      split
      · exact m1
      · exact m3
    · simp only [h, z10, z01, if_false, if_true]
      split
      · exact m3
      · exact m1
theorem pu_inv {g : Nat → Int32} {x : Nat → Nat → Int32} {q w c : Int32} (hw : 0 ≤ w.toInt ∧ w.toInt ≤ 65536) (hc : -70000 ≤ c.toInt ∧ c.toInt ≤ 70000) (h : f_fold g x q c = w) : f_unfold g x q w = c := by
  have hf := pu_foldi (g := g) (x := x) (q := q) hc
  have hu := pu_unfoldi (g := g) (x := x) (q := q) hw
  have hlk : 0 ≤ (f_likeness q).toInt ∧ (f_likeness q).toInt ≤ 1 := by rcases lk_01 q with h | h <;> rw [h] <;> decide
  rw [h] at hf
  apply pu_eq.2
  rw [hu]
  generalize w.toInt = W at *
  generalize c.toInt = C at *
  generalize (f_likeness q).toInt = K at *
  revert hf
  by_cases ce : f_endsRun q = 0
  · simp only [if_pos ce]
    by_cases cl : f_leansBelow g x q = 0
    · simp only [if_pos cl]
      repeat' split
      all_goals intro hf; omega
    · simp only [if_neg cl]
      repeat' split
      all_goals intro hf; omega
  · simp only [if_neg ce]
    by_cases cl : f_turnsAbove g x q = 0
    · simp only [if_pos cl]
      repeat' split
      all_goals intro hf; omega
    · simp only [if_neg cl]
      repeat' split
      all_goals intro hf; omega
theorem pu_cand {g : Nat → Int32} {x : Nat → Nat → Int32} {q w : Int32} (hw : 0 ≤ w.toInt ∧ w.toInt ≤ 65536) :
    (f_unfold g x q w).toInt = w.toInt / 2 ∨ (f_unfold g x q w).toInt = w.toInt / 2 + 1 ∨ (f_unfold g x q w).toInt = -(w.toInt / 2) ∨ (f_unfold g x q w).toInt = -(w.toInt / 2 + 1) := by
  have hlk : 0 ≤ (f_likeness q).toInt ∧ (f_likeness q).toInt ≤ 1 := by rcases lk_01 q with h | h <;> rw [h] <;> decide
  rw [pu_unfoldi hw]
  repeat' split
  all_goals omega
def uP (pm : Nat → Int32) (ym : Nat → Nat → Int32) (v w e : Int32) : Prop := f_m_around pm ym e = e ∧ f_m_fold pm ym v e = w
def uS (pm : Nat → Int32) (ym : Nat → Nat → Int32) (v w ee fd : Int32) : Int32 := if f_m_around pm ym (-ee) = -ee ∧ f_m_fold pm ym v (-ee) = w then -ee else if f_m_around pm ym ee = ee ∧ f_m_fold pm ym v ee = w then ee else fd
theorem pu_body {pm : Nat → Int32} {ym : Nat → Nat → Int32} {v w fd ee : Int32} : fb_m_unfold pm ym v w fd ee = (uS pm ym v w ee fd, ee + 1) := by
  unfold fb_m_unfold f_m_unfold_4 f_m_unfold_7 f_m_unfold_10 f_m_unfold_13 f_m_unfold_16 f_m_unfold_19 f_m_unfold_22 f_m_unfold_25 uS
  by_cases a : f_m_around pm ym ee = ee
  · by_cases b : f_m_fold pm ym v ee = w
    · by_cases c : f_m_around pm ym (-ee) = -ee
      · by_cases d : f_m_fold pm ym v (-ee) = w
        · simp only [a, b, c, d, and_self, if_true]
        · simp only [a, b, c, d, and_self, and_true, true_and, and_false, false_and, if_true, if_false]
      · simp only [a, b, c, and_self, and_true, true_and, and_false, false_and, if_true, if_false]
    · by_cases c : f_m_around pm ym (-ee) = -ee
      · by_cases d : f_m_fold pm ym v (-ee) = w
        · simp only [a, b, c, d, and_self, and_true, true_and, and_false, false_and, if_true, if_false]
        · simp only [a, b, c, d, and_self, and_true, true_and, and_false, false_and, if_true, if_false]
      · simp only [a, b, c, and_self, and_true, true_and, and_false, false_and, if_true, if_false]
  · by_cases c : f_m_around pm ym (-ee) = -ee
    · by_cases d : f_m_fold pm ym v (-ee) = w
      · simp only [a, c, d, and_self, and_true, true_and, and_false, false_and, if_true, if_false]
      · simp only [a, c, d, and_self, and_true, true_and, and_false, false_and, if_true, if_false]
    · simp only [a, c, and_self, and_true, true_and, and_false, false_and, if_true, if_false]
theorem pu_munf {pm : Nat → Int32} {ym : Nat → Nat → Int32} {v w : Int32} (hw : 0 ≤ w.toInt ∧ w.toInt ≤ 65536) :
    f_m_unfold pm ym v w = uS pm ym v w (w / 2 + 1) (uS pm ym v w (w / 2) (uS pm ym v w (w / 2 - 1) (3 * pm 5))) := by
  have a : (w / 2).toInt = w.toInt / 2 := by rw [ti_div hw.1 (by rw [ti_2]; omega), ti_2]
  have b : (w / 2 + 1).toInt = w.toInt / 2 + 1 := by rw [ti_add (by rw [a, ti_1]; omega) (by rw [a, ti_1]; omega), a, ti_1]
  have c : (w / 2 - 1).toInt = w.toInt / 2 - 1 := by rw [ti_sub (by rw [a, ti_1]; omega) (by rw [a, ti_1]; omega), a, ti_1]
  have d : (w / 2 + 1 + 1).toInt = w.toInt / 2 + 2 := by rw [ti_add (by rw [b, ti_1]; omega) (by rw [b, ti_1]; omega), b, ti_1]; omega
  have e : w / 2 - 1 + 1 = w / 2 := Int32.sub_add_cancel _ _
  unfold f_m_unfold fl_m_unfold
  rw [if_neg (by rw [pu_lt, b, c]; omega), pu_body]
  unfold fl_m_unfold
  simp only [e]
  rw [if_neg (by rw [pu_lt, b, a]; omega), pu_body]
  unfold fl_m_unfold
  rw [if_neg (by show ¬ (w / 2 + 1 < w / 2 + 1); rw [pu_lt]; omega), pu_body]
  unfold fl_m_unfold
  rw [if_pos (by rw [pu_lt, b, d]; omega)]
theorem pu_UN {g pm : Nat → Int32} {x ym : Nat → Nat → Int32} {s : Nat} {q w : Int32} (hG : RG g pm) (hT : RT pm) (hC : RC s x ym) (hi : vm_inv ym) (hs : s = 0 ∨ s = 1) (h0 : 1 ≤ q.toInt) (h1 : q.toInt ≤ 366) (hw : 0 ≤ w.toInt ∧ w.toInt ≤ (pm 5).toInt) :
    (f_inRange g (f_unfold g x q w) = f_unfold g x q w → f_fold g x q (f_unfold g x q w) = w → f_m_unfold pm ym (pu_at s q) w = f_unfold g x q w ∧ ¬ f_unfold g x q w = 3 * pm 5) ∧
    (¬ (f_inRange g (f_unfold g x q w) = f_unfold g x q w ∧ f_fold g x q (f_unfold g x q w) = w) → f_m_unfold pm ym (pu_at s q) w = 3 * pm 5) := by
  have hr := hT.2.2.2.2.1
  have hw' : 0 ≤ w.toInt ∧ w.toInt ≤ 65536 := by omega
  have e1 : g 1 = pm 3 := hG.2.1
  have e3 : g 3 = pm 5 := hG.2.2.2.1
  have a : (w / 2).toInt = w.toInt / 2 := by rw [ti_div hw.1 (by rw [ti_2]; omega), ti_2]
  have b : (w / 2 + 1).toInt = w.toInt / 2 + 1 := by rw [ti_add (by rw [a, ti_1]; omega) (by rw [a, ti_1]; omega), a, ti_1]
  have c : (w / 2 - 1).toInt = w.toInt / 2 - 1 := by rw [ti_sub (by rw [a, ti_1]; omega) (by rw [a, ti_1]; omega), a, ti_1]
  have na : (-(w / 2)).toInt = -(w.toInt / 2) := by rw [ti_neg (by omega), a]
  have nb : (-(w / 2 + 1)).toInt = -(w.toInt / 2 + 1) := by rw [ti_neg (by omega), b]
  have nc : (-(w / 2 - 1)).toInt = -(w.toInt / 2 - 1) := by rw [ti_neg (by omega), c]
  have hinv : ∀ u : Int32, -70000 ≤ u.toInt ∧ u.toInt ≤ 70000 → uP pm ym (pu_at s q) w u → f_unfold g x q w = u := fun u hu hP => by
    apply pu_inv hw' hu
    rw [pu_fold (pm := pm) e1 hC hi hs h0 h1]; exact hP.2
  have hPe : uP pm ym (pu_at s q) w (f_unfold g x q w) ↔ (f_inRange g (f_unfold g x q w) = f_unfold g x q w ∧ f_fold g x q (f_unfold g x q w) = w) := by
    unfold uP; rw [pu_range (ym := ym) e3, pu_fold (pm := pm) e1 hC hi hs h0 h1]
  rw [pu_munf hw']
  have hca := pu_cand (g := g) (x := x) (q := q) hw'
  generalize f_unfold g x q w = e0 at *
  have sA : ∀ ee fd : Int32, (-70000 ≤ ee.toInt ∧ ee.toInt ≤ 70000) → fd = e0 → uS pm ym (pu_at s q) w ee fd = e0 := fun ee fd hb hf => by
    have hn : (-ee).toInt = -ee.toInt := ti_neg (by omega)
    unfold uS
    split
    · rename_i h; exact (hinv _ (by rw [hn]; omega) h).symm
    · split
      · rename_i h; exact (hinv _ hb h).symm
      · exact hf
  have sB : ∀ ee fd : Int32, (-70000 ≤ ee.toInt ∧ ee.toInt ≤ 70000) → uP pm ym (pu_at s q) w e0 → (ee = e0 ∨ -ee = e0) → uS pm ym (pu_at s q) w ee fd = e0 := fun ee fd hb hP ho => by
    have hn : (-ee).toInt = -ee.toInt := ti_neg (by omega)
    unfold uS
    split
    · rename_i h; exact (hinv _ (by rw [hn]; omega) h).symm
    · rename_i h
      split
      · rename_i h'; exact (hinv _ hb h').symm
      · rename_i h'
        rcases ho with ho | ho
        · rw [ho] at h'; exact absurd hP h'
        · rw [ho] at h; exact absurd hP h
  have sC : ∀ ee fd : Int32, (-70000 ≤ ee.toInt ∧ ee.toInt ≤ 70000) → ¬ uP pm ym (pu_at s q) w e0 → uS pm ym (pu_at s q) w ee fd = fd := fun ee fd hb hP => by
    have hn : (-ee).toInt = -ee.toInt := ti_neg (by omega)
    unfold uS
    rw [if_neg, if_neg]
    · intro h; rw [hinv _ hb h] at hP; exact hP h
    · intro h; rw [hinv _ (by rw [hn]; omega) h] at hP; exact hP h
  have e3r : (3 * pm 5).toInt = 3 * (pm 5).toInt := by
    have e3 : (3 : Int32).toInt = 3 := by decide
    rw [ti_mul (by rw [e3]; omega) (by rw [e3]; omega), e3]
  refine ⟨fun g1 g2 => ?_, fun hn => ?_⟩
  · have hP : uP pm ym (pu_at s q) w e0 := hPe.2 ⟨g1, g2⟩
    refine ⟨?_, ?_⟩
    · rcases hca with h | h | h | h
      · exact sA _ _ (by omega) (sB _ _ (by omega) hP (Or.inl (pu_eq.2 (by rw [a, h]))))
      · exact sB _ _ (by omega) hP (Or.inl (pu_eq.2 (by rw [b, h])))
      · exact sA _ _ (by omega) (sB _ _ (by omega) hP (Or.inr (pu_eq.2 (by rw [na, h]))))
      · exact sB _ _ (by omega) hP (Or.inr (pu_eq.2 (by rw [nb, h])))
    · rw [pu_eq, e3r]; omega
  · have hP : ¬ uP pm ym (pu_at s q) w e0 := fun h => hn (hPe.1 h)
    rw [sC _ _ (by omega) hP, sC _ _ (by omega) hP, sC _ _ (by omega) hP]
