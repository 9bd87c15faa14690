def RZ (s s' : Nat) (z : Nat → Int32) (ym : Nat → Nat → Int32) : Prop :=
  (z 1 = 0 → (ym 3 s = 0 ∧ ym 4 s = 0 ∧ ym 3 s' = 0 ∧ ym 4 s' = 0) ∧ ∀ j : Nat, j < 734 → ym 7 j = 1) ∧
  (z 1 ≠ 0 → 0 < (ym 3 s).toInt + (ym 4 s).toInt + (ym 3 s').toInt + (ym 4 s').toInt)
def RO (oL pm : Nat → Int32) (ym : Nat → Nat → Int32) : Prop :=
  oL 0 = ym 10 0 ∧ oL 1 = ym 10 1 ∧ oL 2 = ym 10 2 ∧ oL 3 = ym 10 3 ∧ oL 8 = ym 10 4 ∧ oL 5 = pm 20 ∧ oL 7 = pm 21
def RR (s s' k n : Nat) (z g d rr : Nat → Int32) (x : Nat → Nat → Int32) (d' rr' : Nat → Int32) (x' : Nat → Nat → Int32) (oL pm : Nat → Int32) (ym : Nat → Nat → Int32) : Prop :=
  RG g pm ∧ RT pm ∧ RW n (pm 1) ∧ RS s k n (pm 2) (pm 1) d rr ym ∧ RS s' k n (pm 2) (pm 1) d' rr' ym ∧ RC s x ym ∧ RC s' x' ym ∧
  RK (pm 9) (65900 * ((k : Int) + 1)) ym ∧ z 0 = pm 10 ∧ RZ s s' z ym ∧ RO oL pm ym
theorem RR.swap {s s' k n : Nat} {z g d rr : Nat → Int32} {x : Nat → Nat → Int32} {d' rr' : Nat → Int32} {x' : Nat → Nat → Int32} {oL pm : Nat → Int32} {ym : Nat → Nat → Int32}
    (h : RR s s' k n z g d rr x d' rr' x' oL pm ym) : RR s' s k n z g d' rr' x' d rr x oL pm ym := by
  obtain ⟨h1, h2, h3, h4, h5, h6, h7, h8, h9, ⟨ha, hb⟩, hc⟩ := h
  refine ⟨h1, h2, h3, h5, h4, h7, h6, h8, h9, ⟨fun q => ?_, fun q => ?_⟩, hc⟩
  · obtain ⟨⟨a, b, c, d⟩, e⟩ := ha q
    exact ⟨⟨c, d, a, b⟩, e⟩
  · have := hb q; omega
theorem RS.up {s k k' n : Nat} {mx wd : Int32} {d rr : Nat → Int32} {ym : Nat → Nat → Int32} (h : RS s k n mx wd d rr ym) (hk : k ≤ k') : RS s k' n mx wd d rr ym := by
  obtain ⟨h1, ⟨b1, b2, b3⟩, ⟨c1, c2⟩, h4⟩ := h
  exact ⟨h1, ⟨b1, by omega, b3⟩, ⟨c1, by omega⟩, h4⟩
theorem RR.up {s s' k k' n : Nat} {z g d rr : Nat → Int32} {x : Nat → Nat → Int32} {d' rr' : Nat → Int32} {x' : Nat → Nat → Int32} {oL pm : Nat → Int32} {ym : Nat → Nat → Int32}
    (h : RR s s' k n z g d rr x d' rr' x' oL pm ym) (hk : k ≤ k') : RR s s' k' n z g d rr x d' rr' x' oL pm ym := by
  obtain ⟨h1, h2, h3, h4, h5, h6, h7, h8, h9⟩ := h
  exact ⟨h1, h2, h3, h4.up hk, h5.up hk, h6, h7, h8.up (by omega), h9⟩
def KP (a b : Nat → Int32) : Prop := b 1 = a 1 ∧ b 2 = a 2 ∧ b 3 = a 3 ∧ b 4 = a 4 ∧ b 5 = a 5 ∧ b 6 = a 6 ∧ b 7 = a 7 ∧ b 8 = a 8 ∧ b 9 = a 9 ∧ b 10 = a 10 ∧ b 20 = a 20 ∧ b 21 = a 21
theorem RT.kp {pm P : Nat → Int32} (h : RT pm) (k : KP pm P) : RT P := by
  obtain ⟨k1, k2, k3, k4, k5, k6, k7, k8, k9, k10, k20, k21⟩ := k
  unfold RT; rw [k2, k3, k4, k5, k6, k7, k8, k9]; exact h
theorem RG.kp {g pm P : Nat → Int32} (h : RG g pm) (k : KP pm P) : RG g P := by
  obtain ⟨k1, k2, k3, k4, k5, k6, k7, k8, k9, k10, k20, k21⟩ := k
  unfold RG; rw [k2, k3, k4, k5, k6, k7, k8, k9]; exact h
theorem RR.kp {s s' k n : Nat} {z g d rr : Nat → Int32} {x : Nat → Nat → Int32} {d' rr' : Nat → Int32} {x' : Nat → Nat → Int32} {oL pm P : Nat → Int32} {ym : Nat → Nat → Int32}
    (h : RR s s' k n z g d rr x d' rr' x' oL pm ym) (q : KP pm P) : RR s s' k n z g d rr x d' rr' x' oL P ym := by
  obtain ⟨h1, h2, h3, h4, h5, h6, h7, h8, h9, ha, hb⟩ := h
  refine ⟨h1.kp q, h2.kp q, ?_⟩
  obtain ⟨k1, k2, k3, k4, k5, k6, k7, k8, k9, k10, k20, k21⟩ := q
  unfold RO
  rw [k1, k2, k9, k10, k20, k21]
  exact ⟨h3, h4, h5, h6, h7, h8, h9, ha, hb⟩
theorem pu_FIN {s s' k n : Nat} {z g d rr : Nat → Int32} {x : Nat → Nat → Int32} {d' rr' : Nat → Int32} {x' : Nat → Nat → Int32} {oL P o : Nat → Int32} {ym Y X : Nat → Nat → Int32} {v w rb : Int32}
    (hR : RR s s' k n z g d rr x d' rr' x' oL P ym) (hv : (v = 0 ∧ s = 0) ∨ (v = 1 ∧ s = 1)) (hs' : s' ≤ 1) (hne : s' ≠ s) (hk : k < 512) (hp : (d 1).toInt < (P 1).toInt)
    (hw : w = 0 ∨ w = 1) (hrb : 0 ≤ rb.toInt ∧ rb.toInt ≤ (P 2).toInt)
    (ho : o 0 = P 11 ∧ o 1 = P 12 ∧ o 2 = P 13 ∧ o 3 = P 14) (ho4 : o 4 = P 15) (ho5 : o 5 = if w = 0 then P 16 else 0) (ho7 : o 7 = if w = 0 then P 17 else P 11)
    (hY : vm_ky ym Y) (hX : RC s X Y) (hX' : RC s' x' Y) (hK : RK (P 9) (65900 * ((k : Int) + 2)) Y) :
    RR s s' (k + 1) n (f_tell n z d rr o rb w).1 g (f_tell n z d rr o rb w).2.1 (f_tell n z d rr o rb w).2.2.1 X d' rr' x' (f_tell n z d rr o rb w).2.2.2
      (f_m_lay (mk22 (P 0) (P 1) (P 2) (P 3) (P 4) (P 5) (P 6) (P 7) (P 8) (P 9) (P 10) (P 11) (P 12) (P 13) (P 14) (P 15) (P 16) (P 17) (P 18) rb (P 20) (P 21)) Y v w).1
      (f_m_lay (mk22 (P 0) (P 1) (P 2) (P 3) (P 4) (P 5) (P 6) (P 7) (P 8) (P 9) (P 10) (P 11) (P 12) (P 13) (P 14) (P 15) (P 16) (P 17) (P 18) rb (P 20) (P 21)) Y v w).2 ∧
    (f_m_lay (mk22 (P 0) (P 1) (P 2) (P 3) (P 4) (P 5) (P 6) (P 7) (P 8) (P 9) (P 10) (P 11) (P 12) (P 13) (P 14) (P 15) (P 16) (P 17) (P 18) rb (P 20) (P 21)) Y v w).1 0 = P 0 ∧
    (f_m_lay (mk22 (P 0) (P 1) (P 2) (P 3) (P 4) (P 5) (P 6) (P 7) (P 8) (P 9) (P 10) (P 11) (P 12) (P 13) (P 14) (P 15) (P 16) (P 17) (P 18) rb (P 20) (P 21)) Y v w).1 19 = rb := by
  obtain ⟨h1, h2, h3, h4, h5, h6, h7, h8, h9, ha, hb⟩ := hR
  have hs : s ≤ 1 := by rcases hv with h | h <;> omega
  obtain ⟨y0, y1, y2, y3, y4, y5, y10⟩ := hY
  obtain ⟨nB, -, -, -⟩ := pu_nb h4 h3 hk hp
  have hS := h4
  obtain ⟨⟨a0, a1, a2, a3, a3'⟩, ⟨b1, b2, b3⟩, b4, c4, c5, cr, cz, m1, m0, m2⟩ := hS
  have hS' := h5
  obtain ⟨⟨a0', a1', a2', a3x', a3'''⟩, ⟨b1', b2', b3'⟩, b4', -⟩ := hS'
  have hW := h3
  obtain ⟨w1, w2, w3, w4, w5, w6⟩ := hW
  have hpn : (d 1).toInt.toNat < n := by
    by_cases c : (P 1).toInt ≤ 512
    · have := w5 c; omega
    · have := w6 (by omega); omega
  have hYx : Y 3 s = d 1 := by rw [y3, a1]
  have hlay := pu_lay (pm := mk22 (P 0) (P 1) (P 2) (P 3) (P 4) (P 5) (P 6) (P 7) (P 8) (P 9) (P 10) (P 11) (P 12) (P 13) (P 14) (P 15) (P 16) (P 17) (P 18) rb (P 20) (P 21)) (ym := Y) (w := w) hv (by rw [hYx]; exact b1) (by rw [hYx]; omega)
  rw [hlay, pu_tell (z := z) (d := d) (rr := rr) (o := o) (v := rb) (w := w) w3 b1 hpn nB]
  have hnar : vp_nar .boolean w = w := by rcases hw with rfl | rfl <;> rfl
  refine ⟨⟨h1, h2, h3, ?_, ?_, hX, hX', ?_, ?_, ⟨?_, ?_⟩, ?_⟩, rfl, rfl⟩
  · refine pu_rst (ym := ym) hs h4 h3 hk hp hw hrb ?_ ?_ ?_ ?_ ?_ ?_
    · show upd (Y 0) (65536 * s + (Y 3 s).toNatClampNeg) rb = _
      rw [y0, y3]
    · show Y 1 = _
      exact y1
    · show Y 2 = _
      exact y2
    · show upd (Y 3) s (Y 3 s + 1) = _
      rw [y3]
    · show Y 4 = _
      exact y4
    · show upd (Y 5) s _ = _
      rw [y5]
  · refine pu_rso (s := s) (ym := ym) (v := rb) (w := vp_nar .boolean w) (x3 := ym 3 s + 1) (t := (ym 3 s).toNatClampNeg) w3 hs hs' hne h5 ?_ ?_ ?_ ?_ ?_ ?_ ?_
    · rw [← a1]; show (d 1).toInt.toNat < 65536; omega
    · show upd (Y 0) (65536 * s + (Y 3 s).toNatClampNeg) rb = _
      rw [y0, y3]
    · show Y 1 = _
      exact y1
    · show Y 2 = _
      exact y2
    · show upd (Y 3) s (Y 3 s + 1) = _
      rw [y3]
    · show Y 4 = _
      exact y4
    · show upd (Y 5) s _ = _
      rw [y5]
  · show RK (P 9) (65900 * (((k + 1 : Nat) : Int) + 1)) _
    intro j hj
    have := hK j hj
    show 1 ≤ (Y 7 j).toInt ∧ (Y 7 j).toInt ≤ (P 9).toInt ∧ 0 ≤ (Y 6 j).toInt ∧ (Y 6 j).toInt ≤ 65900 * (((k + 1 : Nat) : Int) + 1) ∧ -128 ≤ (Y 9 j).toInt ∧ (Y 9 j).toInt ≤ 127
    omega
  · show (if o 4 = 0 then z 0 else if d 3 = 0 then z 0 + 1 else z 0) = (if P 15 = 0 then P 10 else if Y 5 s = 0 then P 10 + 1 else P 10)
    rw [ho4, h9, y5, a3]
  · intro q
    exact absurd q (by show ¬ (1 : Int32) = 0; decide)
  · intro _
    show 0 < (upd (Y 3) s (Y 3 s + 1) s).toInt + (Y 4 s).toInt + (upd (Y 3) s (Y 3 s + 1) s').toInt + (Y 4 s').toInt
    rw [upd_at, upd_ne hne, hYx, y4, y3, ← a1', ← a2, ← a2', ti_add (by rw [ti_1]; omega) (by rw [ti_1]; omega), ti_1]
    omega
  · refine ⟨?_, ?_, ?_, ?_, ?_, ?_, ?_⟩
    · exact ho.1
    · exact ho.2.1
    · exact ho.2.2.1
    · exact ho.2.2.2
    · rfl
    · exact ho5
    · exact ho7
theorem pu_aw {s k n : Nat} {mx : Int32} {d rr pm : Nat → Int32} {ym : Nat → Nat → Int32} {v w : Int32} (hv : (v = 0 ∧ s = 0) ∨ (v = 1 ∧ s = 1)) (h : RS s k n mx (pm 1) d rr ym) :
    f_awaits n d rr w = f_m_isTurn pm ym v w ∧ (f_m_isTurn pm ym v w = 0 ∨ (f_m_isTurn pm ym v w = 1 ∧ (d 1).toInt < (pm 1).toInt)) := by
  obtain ⟨⟨a0, a1, a2, a3, a3'⟩, ⟨b1, b2, b3⟩, -⟩ := h
  unfold f_awaits f_m_isTurn
  rw [pu_cl hv, ← a1, a0]
  by_cases c : w = d 1
  · subst c
    rw [if_pos rfl, if_pos rfl]
    by_cases c2 : pm 1 ≤ d 1
    · rw [if_pos c2]; exact ⟨rfl, Or.inl rfl⟩
    · rw [if_neg c2]
      refine ⟨rfl, Or.inr ⟨rfl, ?_⟩⟩
      rw [pu_le] at c2; omega
  · rw [if_neg c, if_neg c]
    refine ⟨?_, Or.inl rfl⟩
    split <;> rfl
theorem pu_pm {v q : Int32} (hv : -66000 ≤ v.toInt ∧ v.toInt ≤ 66000) (hq : q = 1 ∨ q = -1) : (q * v).toInt = v.toInt ∨ (q * v).toInt = -v.toInt := by
  rcases hq with rfl | rfl
  · rw [Int32.one_mul]; exact Or.inl rfl
  · rw [Int32.neg_mul, Int32.one_mul, ti_neg (by omega)]; exact Or.inr rfl
theorem pu_qb {pm : Nat → Int32} {ym : Nat → Nat → Int32} {v : Int32} (hT : RT pm) (hv : -65535 ≤ v.toInt ∧ v.toInt ≤ 65535) : -65790 ≤ (f_m_quantise pm ym v).toInt ∧ (f_m_quantise pm ym v).toInt ≤ 65790 := by
  obtain ⟨⟨t1, t2⟩, ⟨t3, t4⟩, ⟨t5, t6, t7, t8⟩, ⟨u1, u2⟩, _, _⟩ := hT
  unfold f_m_quantise
  split
  · rename_i c; rw [pu_le, ti_0] at c
    have e : (v + pm 3).toInt = v.toInt + (pm 3).toInt := ti_add (by omega) (by omega)
    rw [ti_div (by omega) (by omega), e]
    have h1 := Int.ediv_le_self (a := v.toInt + (pm 3).toInt) (pm 4).toInt (by omega)
    have h2 := Int.ediv_nonneg (a := v.toInt + (pm 3).toInt) (b := (pm 4).toInt) (by omega) (by omega)
    omega
  · rename_i c; rw [pu_le, ti_0] at c
    have e : (pm 3 - v).toInt = (pm 3).toInt - v.toInt := ti_sub (by omega) (by omega)
    have e2 : ((pm 3 - v) / pm 4).toInt = ((pm 3).toInt - v.toInt) / (pm 4).toInt := by rw [ti_div (by omega) (by omega), e]
    have h1 := Int.ediv_le_self (a := (pm 3).toInt - v.toInt) (pm 4).toInt (by omega)
    have h2 := Int.ediv_nonneg (a := (pm 3).toInt - v.toInt) (b := (pm 4).toInt) (by omega) (by omega)
    rw [ti_neg (by omega), e2]; omega
theorem pu_ab {pm : Nat → Int32} {ym : Nat → Nat → Int32} {v : Int32} (hT : RT pm) (hv : -65790 ≤ v.toInt ∧ v.toInt ≤ 65790) : -65800 ≤ (f_m_around pm ym v).toInt ∧ (f_m_around pm ym v).toInt ≤ 65800 := by
  obtain ⟨_, _, _, _, ⟨u1, u2⟩, _⟩ := hT
  have e1 : (v + pm 5).toInt = v.toInt + (pm 5).toInt := ti_add (by omega) (by omega)
  have e2 : (v + pm 5 - pm 5).toInt = v.toInt := by rw [ti_sub (by omega) (by omega)]; omega
  have e3 : (v - pm 5).toInt = v.toInt - (pm 5).toInt := ti_sub (by omega) (by omega)
  unfold f_m_around
  split
  · rename_i c; rw [pu_le, ti_0] at c
    split
    · omega
    · omega
  · rename_i c; rw [pu_le, ti_0] at c
    split
    · omega
    · omega
theorem pu_LS {s s' k n : Nat} {z g d rr : Nat → Int32} {x : Nat → Nat → Int32} {d' rr' : Nat → Int32} {x' : Nat → Nat → Int32} {oL P o : Nat → Int32} {ym : Nat → Nat → Int32} {v rb e wf : Int32}
    (hR : RR s s' k n z g d rr x d' rr' x' oL P ym) (hv : (v = 0 ∧ s = 0) ∨ (v = 1 ∧ s = 1)) (hs' : s' ≤ 1) (hne : s' ≠ s) (hk : k < 512) (hp : (d 1).toInt < (P 1).toInt)
    (hrb : 0 ≤ rb.toInt ∧ rb.toInt ≤ (P 2).toInt)
    (ho : o 0 = P 11 ∧ o 1 = P 12 ∧ o 2 = P 13 ∧ o 3 = P 14) (ho4 : o 4 = P 15) (ho5 : o 5 = P 16) (ho7 : o 7 = P 17) (h16 : 1 ≤ (P 16).toInt ∧ (P 16).toInt ≤ 366)
    (he : -65800 ≤ e.toInt ∧ e.toInt ≤ 65800) (hwf : -1 ≤ wf.toInt ∧ wf.toInt ≤ 131700)
    {Q : Nat → Int32} (hQ : Q = mk22 (P 0) (P 1) (P 2) (P 3) (P 4) (P 5) (P 6) (P 7) (P 8) (P 9) (P 10) (P 11) (P 12) (P 13) (P 14) (P 15) (P 16) (P 17) (P 18) rb (P 20) (P 21)) :
    RR s s' (k + 1) n (f_tell n z d rr o rb 0).1 g (f_tell n z d rr o rb 0).2.1 (f_tell n z d rr o rb 0).2.2.1 (f_learn g x (o 5) e wf) d' rr' x' (f_tell n z d rr o rb 0).2.2.2
      (f_m_lay Q (f_m_learn Q ym (pu_at s (P 16)) e wf) v 0).1 (f_m_lay Q (f_m_learn Q ym (pu_at s (P 16)) e wf) v 0).2 ∧
    (f_m_lay Q (f_m_learn Q ym (pu_at s (P 16)) e wf) v 0).1 0 = P 0 ∧
    (f_m_lay Q (f_m_learn Q ym (pu_at s (P 16)) e wf) v 0).1 19 = rb := by
  have hR0 := hR
  obtain ⟨h1, h2, h3, h4, h5, h6, h7, h8, h9, ha, hb⟩ := hR0
  have hs : s = 0 ∨ s = 1 := by rcases hv with h | h; exact Or.inl h.2; exact Or.inr h.2
  have hLN := pu_LN (g := g) (pm := Q) (x := x) (ym := ym) (s := s) (q := P 16) (e := e) (w := wf) (M := 65900 * ((k : Int) + 1)) (by rw [hQ]; exact h1.2.2.1) (by rw [hQ]; exact h1.2.2.2.2.2.2.2) hs h16.1 h16.2 h6 (by rw [hQ]; exact h8) (by omega) (by rw [hQ]; exact h2.2.2.2.2.2) he hwf
  obtain ⟨l1, l2, l3, l4⟩ := hLN
  rw [ho5]
  rw [hQ] at l1 l2 l3 l4 ⊢
  refine pu_FIN hR hv hs' hne hk hp (Or.inl rfl) hrb ho ho4 (by rw [if_pos rfl]; exact ho5) (by rw [if_pos rfl]; exact ho7) l4 l2 (l3 s' x' hne hs' h7) ?_
  exact RK.up l1 (by omega)
theorem pu_S1 {s s' k n : Nat} {z g d rr : Nat → Int32} {x : Nat → Nat → Int32} {d' rr' : Nat → Int32} {x' : Nat → Nat → Int32} {oL P o : Nat → Int32} {ym : Nat → Nat → Int32} {w : Int32}
    (hR : RR s s' k n z g d rr x d' rr' x' oL P ym) (hs : s = 0 ∨ s = 1) (hk : k < 512)
    (ho5 : o 5 = P 16) (ho6 : o 6 = P 18) (ho7 : o 7 = P 17) (h16 : 1 ≤ (P 16).toInt ∧ (P 16).toInt ≤ 366) (h18 : P 18 = 1 ∨ P 18 = -1) (h17 : 0 ≤ (P 17).toInt ∧ (P 17).toInt ≤ (P 2).toInt)
    (hw : 0 ≤ w.toInt ∧ w.toInt ≤ (P 2).toInt) {r9 rb : Int32} (h9 : r9 = f_m_quantise P ym (P 18 * (w - P 17))) (hrb : rb = f_m_brought ((P 17) + (((P 18) * r9) * (P 4))) 0 (P 2))
    {Q : Nat → Int32} (hQ : Q = mk22 (P 0) (P 1) (P 2) (P 3) (P 4) (P 5) (P 6) (P 7) (P 8) (P 9) (P 10) (P 11) (P 12) (P 13) (P 14) (P 15) (P 16) (P 17) (P 18) rb (P 20) (P 21)) :
    f_inSteps g (o 6 * (w - o 7)) = r9 ∧ f_asSample g (f_moved g o r9) = rb ∧ f_inRange g r9 = f_m_around Q ym r9 ∧ f_fold g x (o 5) (f_m_around Q ym r9) = f_m_fold Q ym (pu_at s (P 16)) (f_m_around Q ym r9) ∧
    (-65800 ≤ (f_m_around Q ym r9).toInt ∧ (f_m_around Q ym r9).toInt ≤ 65800) ∧ (-1 ≤ (f_m_fold Q ym (pu_at s (P 16)) (f_m_around Q ym r9)).toInt ∧ (f_m_fold Q ym (pu_at s (P 16)) (f_m_around Q ym r9)).toInt ≤ 131700) ∧ (0 ≤ rb.toInt ∧ rb.toInt ≤ (P 2).toInt) := by
  obtain ⟨g0, g1, g2, g3, g4, g5, g6, g7⟩ := hR.1
  have hT := hR.2.1
  have hT2 := hT
  obtain ⟨⟨t1, t2⟩, ⟨t3, t4⟩, ⟨t5, t6, t7, t8⟩, ⟨u1, u2⟩, _, ⟨v1, v2⟩⟩ := hT2
  have hC : RC s x ym := hR.2.2.2.2.2.1
  have hK := hR.2.2.2.2.2.2.2.1
  have hi : vm_inv ym := hK.inv v2 (by omega)
  have hd : (w - P 17).toInt = w.toInt - (P 17).toInt := ti_sub (by omega) (by omega)
  have hm := pu_pm (v := w - P 17) (q := P 18) (by omega) h18
  have b9 : -65790 ≤ r9.toInt ∧ r9.toInt ≤ 65790 := by rw [h9]; exact pu_qb hT (by omega)
  have hTQ : RT Q := by rw [hQ]; exact hT
  have be := pu_ab (ym := ym) hTQ b9
  have hf : f_fold g x (P 16) (f_m_around Q ym r9) = f_m_fold Q ym (pu_at s (P 16)) (f_m_around Q ym r9) := pu_fold (pm := Q) (by rw [hQ]; exact g1) hC hi hs h16.1 h16.2 _
  refine ⟨?_, ?_, ?_, ?_, be, ?_, ?_⟩
  · rw [ho6, ho7, h9]; exact pu_steps g1 g2 (by omega) _
  · unfold f_moved; rw [ho6, ho7, g2, hrb]; exact pu_asSample g0 (by omega) _
  · exact pu_range (by rw [hQ]; exact g3) _
  · rw [ho5]; exact hf
  · rw [← hf]; exact pu_foldb be
  · have := f_m_brought_b (v := (P 17) + (((P 18) * r9) * (P 4))) (lo := 0) (hi := P 2) (by rw [ti_0]; omega) rfl
    rw [ti_0] at this; rw [hrb]; exact this
theorem pu_KP0 {c : Int32} {pm : Nat → Int32} : KP pm (mk22 c (pm 1) (pm 2) (pm 3) (pm 4) (pm 5) (pm 6) (pm 7) (pm 8) (pm 9) (pm 10) (pm 11) (pm 12) (pm 13) (pm 14) (pm 15) (pm 16) (pm 17) (pm 18) (pm 19) (pm 20) (pm 21)) :=
  ⟨rfl, rfl, rfl, rfl, rfl, rfl, rfl, rfl, rfl, rfl, rfl, rfl⟩
theorem pu_KPk {a b c : Nat → Int32} (h : KP a b) (k : vm_kp b c) : KP a c := by
  obtain ⟨k1, k2, k3, k4, k5, k6, k7, k8, k9, k10, k20, k21⟩ := h
  obtain ⟨l0, l1, l2, l3, l4, l5, l6, l7, l8, l9, l10, l19, l20, l21⟩ := k
  exact ⟨l1.trans k1, l2.trans k2, l3.trans k3, l4.trans k4, l5.trans k5, l6.trans k6, l7.trans k7, l8.trans k8, l9.trans k9, l10.trans k10, l20.trans k20, l21.trans k21⟩
theorem pu_LKR {s s' k n : Nat} {z g d rr : Nat → Int32} {x : Nat → Nat → Int32} {d' rr' : Nat → Int32} {x' : Nat → Nat → Int32} {oL pm oS : Nat → Int32} {ym : Nat → Nat → Int32} {v : Int32}
    (hR : RR s s' k n z g d rr x d' rr' x' oL pm ym) (hv : (v = 0 ∧ s = 0) ∨ (v = 1 ∧ s = 1)) (hk : k < 512) (hp : (d 1).toInt < (pm 1).toInt) {P o : Nat → Int32}
    (hP : P = f_m_look (mk22 0 (pm 1) (pm 2) (pm 3) (pm 4) (pm 5) (pm 6) (pm 7) (pm 8) (pm 9) (pm 10) (pm 11) (pm 12) (pm 13) (pm 14) (pm 15) (pm 16) (pm 17) (pm 18) (pm 19) (pm 20) (pm 21)) ym v) (ho : o = f_lookAhead n g x d rr oS) :
    RR s s' k n z g d rr x d' rr' x' oL P ym ∧ P 0 = 0 ∧ KP pm P ∧ (o 0 = P 11 ∧ o 1 = P 12 ∧ o 2 = P 13 ∧ o 3 = P 14) ∧ (0 ≤ (P 11).toInt ∧ (P 11).toInt ≤ (P 2).toInt) ∧ (P 18 = 1 ∨ P 18 = -1) ∧ (0 ≤ (P 17).toInt ∧ (P 17).toInt ≤ (P 2).toInt) ∧ (1 ≤ (P 16).toInt ∧ (P 16).toInt ≤ 366) ∧
    ((o 4 = 1 ∧ P 15 = 1 ∧ o 5 = 0 ∧ o 7 = P 11 ∧ LkE P (f_expectEnd g o)) ∨ (o 4 = 0 ∧ P 15 = 0 ∧ o 5 = P 16 ∧ o 6 = P 18 ∧ o 7 = P 17)) := by
  have hR1 := hR.kp (pu_KP0 (c := 0) (pm := pm))
  obtain ⟨h1, h2, h3, h4, h5, h6, h7, h8, h9⟩ := hR1
  have hL := pu_LOOK (o := oS) hv h1 h2 h4 h3 h6 hk hp
  rw [← hP, ← ho] at hL
  obtain ⟨l1, l2, l3, l4, l5, l6, l7⟩ := hL
  have hK := pu_KPk (pu_KP0 (c := 0) (pm := pm)) l2
  have e2 : P 2 = pm 2 := hK.2.1
  have e2' : (mk22 0 (pm 1) (pm 2) (pm 3) (pm 4) (pm 5) (pm 6) (pm 7) (pm 8) (pm 9) (pm 10) (pm 11) (pm 12) (pm 13) (pm 14) (pm 15) (pm 16) (pm 17) (pm 18) (pm 19) (pm 20) (pm 21)) 2 = pm 2 := rfl
  rw [e2', ← e2] at l3 l5
  exact ⟨hR.kp hK, l2.1, hK, l1, l3, l4, l5, l6, l7⟩
theorem pu_SA {k n : Nat} {z g d rr : Nat → Int32} {x : Nat → Nat → Int32} {d' rr' : Nat → Int32} {x' : Nat → Nat → Int32} {oL oS pm : Nat → Int32} {ym : Nat → Nat → Int32} {v w : Int32}
    (hR : RR 0 1 k n z g d rr x d' rr' x' oL pm ym) (hk : k < 512) :
    ∃ (b : Int32) (pm' : Nat → Int32) (ym' : Nat → Nat → Int32), f_m_sample pm ym v w = (b, pm', ym') ∧
      ((∃ c : Nat, f_sample n n z g d rr x d' rr' x' oL oS v w = .inr c ∧ pm' 0 = (if c = 1 then 1 else 2) ∧ ym' = ym ∧ KP pm pm') ∨
       (∃ (z1 d1 rr1 : Nat → Int32) (x1 : Nat → Nat → Int32) (o1 : Nat → Int32), f_sample n n z g d rr x d' rr' x' oL oS v w = .inl (b, z1, d1, rr1, x1, o1) ∧ pm' 0 = 0 ∧ RR 0 1 (k + 1) n z1 g d1 rr1 x1 d' rr' x' o1 pm' ym')) := by
  have hv : ((0 : Int32) = 0 ∧ (0 : Nat) = 0) ∨ ((0 : Int32) = 1 ∧ (0 : Nat) = 1) := Or.inl ⟨rfl, rfl⟩
  have g0 : g 0 = pm 2 := hR.1.1
  obtain ⟨ea, hp⟩ := pu_aw (w := v) hv hR.2.2.2.1
  unfold f_m_sample f_sample f_m_sample_2 f_sample_2
  rw [ea]
  by_cases c1 : f_m_isTurn pm ym 0 v = 0
  · rw [if_pos c1, if_pos c1]
    exact ⟨_, _, _, rfl, Or.inl ⟨1, rfl, rfl, rfl, pu_KP0⟩⟩
  rw [if_neg c1, if_neg c1]
  have hp' := (hp.resolve_left c1).2
  by_cases c2 : w < 0
  · rw [if_pos c2, if_pos c2]
    exact ⟨_, _, _, rfl, Or.inl ⟨2, rfl, rfl, rfl, pu_KP0⟩⟩
  rw [if_neg c2, if_neg c2, g0]
  by_cases c3 : w ≤ pm 2
  case neg =>
    rw [if_neg c3, if_neg c3]
    exact ⟨_, _, _, rfl, Or.inl ⟨2, rfl, rfl, rfl, pu_KP0⟩⟩
  rw [if_pos c3, if_pos c3]
  generalize f_m_isTurn pm ym 0 v = rt
  generalize hP : f_m_look (mk22 0 (pm 1) (pm 2) (pm 3) (pm 4) (pm 5) (pm 6) (pm 7) (pm 8) (pm 9) (pm 10) (pm 11) (pm 12) (pm 13) (pm 14) (pm 15) (pm 16) (pm 17) (pm 18) (pm 19) (pm 20) (pm 21)) ym 0 = P
  generalize ho : f_lookAhead n g x d rr oS = o
  obtain ⟨hR1, p0, hKP, q1, q2, q3, q4, q5, q6⟩ := pu_LKR (oS := oS) hR hv hk hp' hP.symm ho.symm
  have e2 : P 2 = pm 2 := hKP.2.1
  have hw : 0 ≤ w.toInt ∧ w.toInt ≤ (P 2).toInt := by
    rw [pu_lt, ti_0] at c2; rw [pu_le] at c3; rw [e2]; omega
  have hp1 : (d 1).toInt < (P 1).toInt := by rw [hKP.1]; exact hp'
  unfold f_m_sample_9 f_sample_7
  rcases q6 with ⟨r4, r15, r5, r7, rE⟩ | ⟨r4, r15, r5, r6, r7⟩
  · rw [r4, r15, if_neg (by decide), if_neg (by decide)]
    have hnear : f_m_isNear P ym (w - P 11) = 0 ↔ g 1 < jabs (w - o 0) := by
      unfold f_m_isNear f_m_isNear_2
      rw [q1.1, pu_size, hR1.1.2.1]
      by_cases c : P 3 < f_m_size (w - P 11)
      · rw [if_pos c]; exact ⟨fun _ => c, fun _ => rfl⟩
      · rw [if_neg c]; exact ⟨fun h => absurd h (by decide), fun h => absurd h c⟩
    unfold f_m_sample_24
    by_cases cn : f_m_isNear P ym (w - P 11) = 0
    · rw [if_pos cn, if_pos (hnear.1 cn)]
      generalize f_m_isNear P ym (w - P 11) = nr
      generalize hoe : f_expectEnd g o = oe
      rw [hoe] at rE
      obtain ⟨f0, f1, f2, f3, f4, f5, f6, f7, f8⟩ := rE
      obtain ⟨s1, s2, s3, s4, s5, s6, s7⟩ := pu_S1 (o := oe) (w := w) hR1 (Or.inl rfl) hk f5 f6 f7 q5 q3 q4 hw rfl rfl rfl
      have hL := pu_LS (o := oe) hR1 hv (by omega) (by omega) hk hp1 s7 ⟨f0, f1, f2, f3⟩ (by rw [f4, r15]) f5 f7 q5 s5 s6 rfl
      obtain ⟨L1, L2, L3⟩ := hL
      refine ⟨_, _, _, rfl, Or.inr ⟨?z0, ?d0, ?rr0, ?x0, ?o0, ?e0, L2.trans p0, ?r0⟩⟩
      case e0 =>
        unfold f_sample_25 f_sample_27 f_sample_29 f_sample_31 f_sample_33 f_sample_35 f_sample_37 f_sample_39
        rw [s1, s3, s4, s2]
        all_goals rfl
      case r0 => exact L1
    · rw [if_neg cn, if_neg (fun h => cn (hnear.2 h))]
      have hF := pu_FIN (o := o) (w := 1) (rb := P 11) (X := x) (Y := ym) hR1 hv (by omega) (by omega) hk hp1 (Or.inr rfl) q2 q1 (by rw [r4, r15]) (by rw [if_neg (by decide)]; exact r5) (by rw [if_neg (by decide)]; exact r7) ⟨rfl, rfl, rfl, rfl, rfl, rfl, rfl⟩ hR1.2.2.2.2.2.1 hR1.2.2.2.2.2.2.1 (RK.up hR1.2.2.2.2.2.2.2.1 (by omega))
      obtain ⟨L1, L2, L3⟩ := hF
      refine ⟨_, _, _, rfl, Or.inr ⟨?z1, ?d1, ?rr1, ?x1, ?o1, ?e1, L2.trans p0, ?r1⟩⟩
      case e1 =>
        unfold f_sample_41
        rw [q1.1]
        all_goals rfl
      case r1 => exact L1
  · rw [r4, r15, if_pos rfl, if_pos rfl]
    obtain ⟨s1, s2, s3, s4, s5, s6, s7⟩ := pu_S1 (o := o) (w := w) hR1 (Or.inl rfl) hk r5 r6 r7 q5 q3 q4 hw rfl rfl rfl
    have hL := pu_LS (o := o) hR1 hv (by omega) (by omega) hk hp1 s7 q1 (by rw [r4, r15]) r5 r7 q5 s5 s6 rfl
    obtain ⟨L1, L2, L3⟩ := hL
    refine ⟨_, _, _, rfl, Or.inr ⟨?z2, ?d2, ?rr2, ?x2, ?o2, ?e2, L2.trans p0, ?r2⟩⟩
    case e2 =>
      unfold f_sample_10 f_sample_12 f_sample_14 f_sample_16 f_sample_18 f_sample_20 f_sample_22
      rw [s1, s3, s4, s2]
      all_goals rfl
    case r2 => exact L1
theorem pu_TO {g P : Nat → Int32} (hG : RG g P) (hT : RT P) (r : Int32) : f_turnedOver g r = if -(P 3) ≤ r then (if r ≤ P 2 + P 3 then r else r - P 5 * P 4) else r + P 5 * P 4 := by
  obtain ⟨g0, g1, g2, g3, g4, g5, g6, g7⟩ := hG
  obtain ⟨⟨t1, t2⟩, ⟨t3, t4⟩, _⟩ := hT
  unfold f_turnedOver
  rw [g0, g1, g2, g3]
  have e1 : (-(P 3)).toInt = -(P 3).toInt := ti_neg (by omega)
  have e2 : (P 2 + P 3).toInt = (P 2).toInt + (P 3).toInt := ti_add (by omega) (by omega)
  by_cases c : -(P 3) ≤ r
  · rw [if_pos c, if_pos c]
  · rw [if_neg c, if_neg c]
    have c' := c
    rw [pu_le, e1] at c'
    rw [if_pos (by rw [pu_le, e2]; omega)]
theorem pu_B1 {s s' k n : Nat} {z g d rr : Nat → Int32} {x : Nat → Nat → Int32} {d' rr' : Nat → Int32} {x' : Nat → Nat → Int32} {oL P o : Nat → Int32} {ym : Nat → Nat → Int32} {w : Int32}
    (hR : RR s s' k n z g d rr x d' rr' x' oL P ym) (hs : s = 0 ∨ s = 1) (hk : k < 512)
    (ho5 : o 5 = P 16) (ho6 : o 6 = P 18) (ho7 : o 7 = P 17) (h16 : 1 ≤ (P 16).toInt ∧ (P 16).toInt ≤ 366)
    (hw : 0 ≤ w.toInt ∧ w.toInt ≤ (P 5).toInt) {u : Int32} (hu : f_unfold g x (o 5) w = u) :
    (f_inRange g u = u → f_fold g x (o 5) u = w → f_m_unfold P ym (pu_at s (P 16)) w = u ∧ ¬ u = 3 * P 5) ∧
    (¬ (f_inRange g u = u ∧ f_fold g x (o 5) u = w) → f_m_unfold P ym (pu_at s (P 16)) w = 3 * P 5) ∧
    (-65800 ≤ u.toInt ∧ u.toInt ≤ 65800) ∧ (-1 ≤ w.toInt ∧ w.toInt ≤ 131700) ∧
    f_asSample g (f_turnedOver g (f_moved g o u)) = f_m_brought (if -(P 3) ≤ ((P 17) + (((P 18) * u) * (P 4))) then (if ((P 17) + (((P 18) * u) * (P 4))) ≤ P 2 + P 3 then ((P 17) + (((P 18) * u) * (P 4))) else ((P 17) + (((P 18) * u) * (P 4))) - P 5 * P 4) else ((P 17) + (((P 18) * u) * (P 4))) + P 5 * P 4) 0 (P 2) := by
  have hG := hR.1
  have hT := hR.2.1
  have hT2 := hT
  obtain ⟨⟨t1, t2⟩, ⟨t3, t4⟩, ⟨t5, t6, t7, t8⟩, ⟨u1, u2⟩, ⟨r1, r2⟩, ⟨v1, v2⟩⟩ := hT2
  have hC : RC s x ym := hR.2.2.2.2.2.1
  have hK := hR.2.2.2.2.2.2.2.1
  have hi : vm_inv ym := hK.inv v2 (by omega)
  have hU := pu_UN hG hT hC hi hs h16.1 h16.2 hw
  have hc := pu_cand (g := g) (x := x) (q := P 16) (w := w) (by omega)
  rw [ho5] at hu ⊢
  rw [hu] at hU hc
  refine ⟨hU.1, hU.2, by omega, by omega, ?_⟩
  rw [pu_asSample hG.1 (by omega), pu_TO hG hT]
  unfold f_moved
  rw [ho6, ho7, hG.2.2.1]
theorem pu_t0 {n : Nat} {z d rr o : Nat → Int32} {v w : Int32} : (f_tell n z d rr o v w).2.2.2 0 = o 0 := by
  unfold f_tell f_tell_3 f_tell_6 f_tell_8
  split
  · rfl
  · split <;> rfl
theorem pu_i3 {α : Type} {a b : Prop} [Decidable a] [Decidable b] (F : Int32 → α) (p q r : Int32) : (if a then (if b then F p else F q) else F r) = F (if a then (if b then p else q) else r) := by
  split
  · split <;> rfl
  · rfl
theorem pu_BA {k n : Nat} {z g d rr : Nat → Int32} {x : Nat → Nat → Int32} {d' rr' : Nat → Int32} {x' : Nat → Nat → Int32} {oL oS pm : Nat → Int32} {ym : Nat → Nat → Int32} {v w : Int32}
    (hR : RR 1 0 k n z g d rr x d' rr' x' oL pm ym) (hk : k < 512) :
    ∃ (b : Int32) (pm' : Nat → Int32) (ym' : Nat → Nat → Int32), f_m_back pm ym v w = (b, pm', ym') ∧
      ((∃ c : Nat, f_back n n z g d' rr' x' d rr x oL oS v w = .inr c ∧ pm' 0 = (if c = 1 then 1 else 2) ∧ ym' = ym ∧ KP pm pm') ∨
       (∃ (z1 d1 rr1 : Nat → Int32) (x1 : Nat → Nat → Int32) (o1 : Nat → Int32), f_back n n z g d' rr' x' d rr x oL oS v w = .inl (b, z1, d1, rr1, x1, o1) ∧ pm' 0 = 0 ∧ RR 1 0 (k + 1) n z1 g d1 rr1 x1 d' rr' x' o1 pm' ym')) := by
  have hv : ((1 : Int32) = 0 ∧ (1 : Nat) = 0) ∨ ((1 : Int32) = 1 ∧ (1 : Nat) = 1) := Or.inr ⟨rfl, rfl⟩
  have g3 : g 3 = pm 5 := hR.1.2.2.2.1
  obtain ⟨ea, hp⟩ := pu_aw (w := v) hv hR.2.2.2.1
  unfold f_m_back f_back f_m_back_2 f_back_2
  rw [ea]
  by_cases c1 : f_m_isTurn pm ym 1 v = 0
  · rw [if_pos c1, if_pos c1]
    exact ⟨_, _, _, rfl, Or.inl ⟨1, rfl, rfl, rfl, pu_KP0⟩⟩
  rw [if_neg c1, if_neg c1]
  have hp' := (hp.resolve_left c1).2
  generalize f_m_isTurn pm ym 1 v = rt
  generalize hP : f_m_look (mk22 0 (pm 1) (pm 2) (pm 3) (pm 4) (pm 5) (pm 6) (pm 7) (pm 8) (pm 9) (pm 10) (pm 11) (pm 12) (pm 13) (pm 14) (pm 15) (pm 16) (pm 17) (pm 18) (pm 19) (pm 20) (pm 21)) ym 1 = P
  generalize ho : f_lookAhead n g x d rr oS = o
  obtain ⟨hR1, p0, hKP, q1, q2, q3, q4, q5, q6⟩ := pu_LKR (oS := oS) hR hv hk hp' hP.symm ho.symm
  have e5 : P 5 = pm 5 := hKP.2.2.2.2.1
  have hp1 : (d 1).toInt < (P 1).toInt := by rw [hKP.1]; exact hp'
  have hK2 : KP pm (mk22 2 (P 1) (P 2) (P 3) (P 4) (P 5) (P 6) (P 7) (P 8) (P 9) (P 10) (P 11) (P 12) (P 13) (P 14) (P 15) (P 16) (P 17) (P 18) (P 19) (P 20) (P 21)) := hKP
  unfold f_m_back_7
  by_cases cm : w = -2147483648
  · rw [if_pos cm, if_pos cm]
    unfold f_back_6
    rw [if_pos cm]
    rcases q6 with ⟨r4, r15, r5, r7, rE⟩ | ⟨r4, r15, r5, r6, r7⟩
    · rw [r4, if_neg (show ¬ P 15 = 0 from by rw [r15]; decide), if_neg (by decide)]
      have hF := pu_FIN (o := o) (w := 1) (rb := P 11) (X := x) (Y := ym) hR1 hv (by omega) (by omega) hk hp1 (Or.inr rfl) q2 q1 (by rw [r4, r15]) (by rw [if_neg (by decide)]; exact r5) (by rw [if_neg (by decide)]; exact r7) ⟨rfl, rfl, rfl, rfl, rfl, rfl, rfl⟩ hR1.2.2.2.2.2.1 hR1.2.2.2.2.2.2.1 (RK.up hR1.2.2.2.2.2.2.2.1 (by omega))
      rw [p0] at hF
      obtain ⟨L1, L2, L3⟩ := hF
      refine ⟨_, _, _, rfl, Or.inr ⟨?z0, ?d0, ?rr0, ?x0, ?o0, ?e0, L2, ?r0⟩⟩
      case e0 =>
        unfold f_back_49
        rw [q1.1]
        refine congrArg Sum.inl (Prod.ext (pu_t0.trans (q1.1.trans L3.symm)) ?_)
        rfl
      case r0 => exact L1
    · rw [r4, if_pos r15, if_pos rfl]
      exact ⟨_, _, _, rfl, Or.inl ⟨2, rfl, rfl, rfl, hK2⟩⟩
  rw [if_neg cm, if_neg cm]
  by_cases c2 : w < 0
  · rw [if_pos c2, if_pos c2, if_pos rfl]
    exact ⟨_, _, _, rfl, Or.inl ⟨2, rfl, rfl, rfl, hK2⟩⟩
  rw [if_neg c2, if_neg c2, g3, e5]
  by_cases c3 : w ≤ pm 5
  case neg =>
    rw [if_neg c3, if_neg c3, if_pos rfl]
    rw [← e5]
    exact ⟨_, _, _, rfl, Or.inl ⟨2, rfl, rfl, rfl, hK2⟩⟩
  rw [if_pos c3, if_pos c3]
  have hw : 0 ≤ w.toInt ∧ w.toInt ≤ (P 5).toInt := by
    rw [pu_lt, ti_0] at c2; rw [pu_le] at c3; rw [e5]; omega
  rw [show (367 : Int32) + P 16 = pu_at 1 (P 16) from rfl]
  unfold f_back_53 f_m_back_26
  rw [if_neg cm]
  rcases q6 with ⟨r4, r15, r5, r7, rE⟩ | ⟨r4, r15, r5, r6, r7⟩
  · rw [r4, if_neg (show ¬ (1 : Int32) = 0 from by decide)]
    unfold f_back_75 f_back_77 f_back_79 f_back_82
    generalize hoe : f_expectEnd g o = oe
    rw [hoe] at rE
    obtain ⟨f0, f1, f2, f3, f4, f5, f6, f7, f8⟩ := rE
    generalize hu : f_unfold g x (oe 5) w = u
    obtain ⟨B1, B2, B3, B4, B5⟩ := pu_B1 (o := oe) (w := w) hR1 (Or.inr rfl) hk f5 f6 f7 q5 hw hu
    by_cases cA : f_inRange g u = u ∧ f_fold g x (oe 5) u = w
    · obtain ⟨E1, E2⟩ := B1 cA.1 cA.2
      rw [if_pos cA.1, if_pos cA.2, E1, if_neg E2, pu_i3 (fun t => f_m_back_j30 pm ym v w rt P u t)]
      have hrb := f_m_brought_b (v := (if -(P 3) ≤ ((P 17) + (((P 18) * u) * (P 4))) then (if ((P 17) + (((P 18) * u) * (P 4))) ≤ P 2 + P 3 then ((P 17) + (((P 18) * u) * (P 4))) else ((P 17) + (((P 18) * u) * (P 4))) - P 5 * P 4) else ((P 17) + (((P 18) * u) * (P 4))) + P 5 * P 4)) (lo := 0) (hi := P 2) (by rw [ti_0]; have := hR1.2.1.2.1.1; omega) rfl
      rw [ti_0, ← B5] at hrb
      unfold f_m_back_j30
      rw [← B5]
      generalize hrv : f_asSample g (f_turnedOver g (f_moved g oe u)) = rb at hrb ⊢
      have hL := pu_LS (o := oe) (Q := mk22 0 (P 1) (P 2) (P 3) (P 4) (P 5) (P 6) (P 7) (P 8) (P 9) (P 10) (P 11) (P 12) (P 13) (P 14) (P 15) (P 16) (P 17) (P 18) rb (P 20) (P 21)) hR1 hv (by omega) (by omega) hk hp1 hrb ⟨f0, f1, f2, f3⟩ (by rw [f4, r15]) f5 f7 q5 B3 B4 (by rw [p0])
      obtain ⟨L1, L2, L3⟩ := hL
      refine ⟨_, _, _, rfl, Or.inr ⟨?z1, ?d1, ?rr1, ?x1, ?o1, ?e1, L2.trans p0, ?r1⟩⟩
      case e1 =>
        unfold f_back_85 f_back_87 f_back_89 f_back_91 f_back_93
        rw [hrv]
        show _ = Sum.inl ((f_m_lay (mk22 0 (P 1) (P 2) (P 3) (P 4) (P 5) (P 6) (P 7) (P 8) (P 9) (P 10) (P 11) (P 12) (P 13) (P 14) (P 15) (P 16) (P 17) (P 18) rb (P 20) (P 21)) (f_m_learn (mk22 0 (P 1) (P 2) (P 3) (P 4) (P 5) (P 6) (P 7) (P 8) (P 9) (P 10) (P 11) (P 12) (P 13) (P 14) (P 15) (P 16) (P 17) (P 18) rb (P 20) (P 21)) ym (pu_at 1 (P 16)) u w) 1 0).1 19, _)
        rw [L3]
      case r1 => exact L1
    · rw [B2 cA, if_pos rfl]
      by_cases cB : f_inRange g u = u
      · rw [if_pos cB, if_neg (fun h => cA ⟨cB, h⟩)]
        exact ⟨_, _, _, rfl, Or.inl ⟨2, rfl, rfl, rfl, hK2⟩⟩
      · rw [if_neg cB]
        exact ⟨_, _, _, rfl, Or.inl ⟨2, rfl, rfl, rfl, hK2⟩⟩
  · rw [r4, if_pos (show (0 : Int32) = 0 from rfl)]
    unfold f_back_57 f_back_59 f_back_62
    generalize hu : f_unfold g x (o 5) w = u
    obtain ⟨B1, B2, B3, B4, B5⟩ := pu_B1 (o := o) (w := w) hR1 (Or.inr rfl) hk r5 r6 r7 q5 hw hu
    by_cases cA : f_inRange g u = u ∧ f_fold g x (o 5) u = w
    · obtain ⟨E1, E2⟩ := B1 cA.1 cA.2
      rw [if_pos cA.1, if_pos cA.2, E1, if_neg E2, pu_i3 (fun t => f_m_back_j30 pm ym v w rt P u t)]
      have hrb := f_m_brought_b (v := (if -(P 3) ≤ ((P 17) + (((P 18) * u) * (P 4))) then (if ((P 17) + (((P 18) * u) * (P 4))) ≤ P 2 + P 3 then ((P 17) + (((P 18) * u) * (P 4))) else ((P 17) + (((P 18) * u) * (P 4))) - P 5 * P 4) else ((P 17) + (((P 18) * u) * (P 4))) + P 5 * P 4)) (lo := 0) (hi := P 2) (by rw [ti_0]; have := hR1.2.1.2.1.1; omega) rfl
      rw [ti_0, ← B5] at hrb
      unfold f_m_back_j30
      rw [← B5]
      generalize hrv : f_asSample g (f_turnedOver g (f_moved g o u)) = rb at hrb ⊢
      have hL := pu_LS (o := o) (Q := mk22 0 (P 1) (P 2) (P 3) (P 4) (P 5) (P 6) (P 7) (P 8) (P 9) (P 10) (P 11) (P 12) (P 13) (P 14) (P 15) (P 16) (P 17) (P 18) rb (P 20) (P 21)) hR1 hv (by omega) (by omega) hk hp1 hrb q1 (by rw [r4, r15]) r5 r7 q5 B3 B4 (by rw [p0])
      obtain ⟨L1, L2, L3⟩ := hL
      refine ⟨_, _, _, rfl, Or.inr ⟨?z2, ?d2, ?rr2, ?x2, ?o2, ?e2, L2.trans p0, ?r2⟩⟩
      case e2 =>
        unfold f_back_65 f_back_67 f_back_69 f_back_71 f_back_73
        rw [hrv]
        show _ = Sum.inl ((f_m_lay (mk22 0 (P 1) (P 2) (P 3) (P 4) (P 5) (P 6) (P 7) (P 8) (P 9) (P 10) (P 11) (P 12) (P 13) (P 14) (P 15) (P 16) (P 17) (P 18) rb (P 20) (P 21)) (f_m_learn (mk22 0 (P 1) (P 2) (P 3) (P 4) (P 5) (P 6) (P 7) (P 8) (P 9) (P 10) (P 11) (P 12) (P 13) (P 14) (P 15) (P 16) (P 17) (P 18) rb (P 20) (P 21)) ym (pu_at 1 (P 16)) u w) 1 0).1 19, _)
        rw [L3]
      case r2 => exact L1
    · rw [B2 cA, if_pos rfl]
      by_cases cB : f_inRange g u = u
      · rw [if_pos cB, if_neg (fun h => cA ⟨cB, h⟩)]
        exact ⟨_, _, _, rfl, Or.inl ⟨2, rfl, rfl, rfl, hK2⟩⟩
      · rw [if_neg cB]
        exact ⟨_, _, _, rfl, Or.inl ⟨2, rfl, rfl, rfl, hK2⟩⟩
