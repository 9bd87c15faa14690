def Rl (k n : Nat) (z : Nat → Int32) (g : Nat → Int32) (d1 : Nat → Int32) (rr1 : Nat → Int32) (x1 : Nat → Nat → Int32) (d2 : Nat → Int32) (rr2 : Nat → Int32) (x2 : Nat → Nat → Int32) (oL : Nat → Int32) (pm : Nat → Int32) (ym : Nat → Nat → Int32) : Prop :=
  ∃ j : Nat, j ≤ k ∧ j ≤ 512 ∧ RR 0 1 j n z g d1 rr1 x1 d2 rr2 x2 oL pm ym
theorem Rl_n {k n : Nat} {z : Nat → Int32} {g : Nat → Int32} {d1 : Nat → Int32} {rr1 : Nat → Int32} {x1 : Nat → Nat → Int32} {d2 : Nat → Int32} {rr2 : Nat → Int32} {x2 : Nat → Nat → Int32} {oL : Nat → Int32} {pm : Nat → Int32} {ym : Nat → Nat → Int32} (hR : Rl k n z g d1 rr1 x1 d2 rr2 x2 oL pm ym) : n < 2 ^ 31 := by
  obtain ⟨j, hj, hj5, h⟩ := hR
  have := h.2.2.1.2.2.1
  omega
theorem Rl_st {k n : Nat} {z : Nat → Int32} {g : Nat → Int32} {d1 : Nat → Int32} {rr1 : Nat → Int32} {x1 : Nat → Nat → Int32} {d2 : Nat → Int32} {rr2 : Nat → Int32} {x2 : Nat → Nat → Int32} {oL : Nat → Int32} {pm : Nat → Int32} {ym : Nat → Nat → Int32} (hR : Rl k n z g d1 rr1 x1 d2 rr2 x2 oL pm ym) : ¬ pm 4 = 0 := by
  obtain ⟨j, hj, hj5, h⟩ := hR
  have := h.2.1.2.2.2.1.1
  intro e
  rw [e, ti_0] at this
  omega
theorem Rl_inv {k n : Nat} {z : Nat → Int32} {g : Nat → Int32} {d1 : Nat → Int32} {rr1 : Nat → Int32} {x1 : Nat → Nat → Int32} {d2 : Nat → Int32} {rr2 : Nat → Int32} {x2 : Nat → Nat → Int32} {oL : Nat → Int32} {pm : Nat → Int32} {ym : Nat → Nat → Int32} (hR : Rl k n z g d1 rr1 x1 d2 rr2 x2 oL pm ym) : vm_inv ym := by
  obtain ⟨j, hj, hj5, h⟩ := hR
  exact h.2.2.2.2.2.2.2.1.inv h.2.1.2.2.2.2.2.2 (by omega)
theorem Rl_x0 {k n : Nat} {z : Nat → Int32} {g : Nat → Int32} {d1 : Nat → Int32} {rr1 : Nat → Int32} {x1 : Nat → Nat → Int32} {d2 : Nat → Int32} {rr2 : Nat → Int32} {x2 : Nat → Nat → Int32} {oL : Nat → Int32} {pm : Nat → Int32} {ym : Nat → Nat → Int32} (hR : Rl k n z g d1 rr1 x1 d2 rr2 x2 oL pm ym) : 0 ≤ ((ym 3) (0 : Int32).toNatClampNeg).toInt ∧ (pm 1).toInt ≤ 65536 := by
  obtain ⟨j, hj, hj5, h⟩ := hR
  have h4 := h.2.2.2.1
  have e : d1 1 = ym 3 0 := h4.1.2.1
  have b := h4.2.1.1
  rw [e] at b
  exact ⟨b, h.2.2.1.2.1⟩
theorem Rl_x1 {k n : Nat} {z : Nat → Int32} {g : Nat → Int32} {d1 : Nat → Int32} {rr1 : Nat → Int32} {x1 : Nat → Nat → Int32} {d2 : Nat → Int32} {rr2 : Nat → Int32} {x2 : Nat → Nat → Int32} {oL : Nat → Int32} {pm : Nat → Int32} {ym : Nat → Nat → Int32} (hR : Rl k n z g d1 rr1 x1 d2 rr2 x2 oL pm ym) : 0 ≤ ((ym 3) (1 : Int32).toNatClampNeg).toInt ∧ (pm 1).toInt ≤ 65536 := by
  obtain ⟨j, hj, hj5, h⟩ := hR
  have h4 := h.2.2.2.2.1
  have e : d2 1 = ym 3 1 := h4.1.2.1
  have b := h4.2.1.1
  rw [e] at b
  exact ⟨b, h.2.2.1.2.1⟩
theorem Rl_rg {k n : Nat} {z : Nat → Int32} {g : Nat → Int32} {d1 : Nat → Int32} {rr1 : Nat → Int32} {x1 : Nat → Nat → Int32} {d2 : Nat → Int32} {rr2 : Nat → Int32} {x2 : Nat → Nat → Int32} {oL : Nat → Int32} {pm : Nat → Int32} {ym : Nat → Nat → Int32} (hR : Rl k n z g d1 rr1 x1 d2 rr2 x2 oL pm ym) : (pm 5).toInt ≤ 1000000 := by
  obtain ⟨j, hj, hj5, h⟩ := hR
  have := h.2.1.2.2.2.2.1.2
  omega
theorem Rl_wd {k n : Nat} {z : Nat → Int32} {g : Nat → Int32} {d1 : Nat → Int32} {rr1 : Nat → Int32} {x1 : Nat → Nat → Int32} {d2 : Nat → Int32} {rr2 : Nat → Int32} {x2 : Nat → Nat → Int32} {oL : Nat → Int32} {pm : Nat → Int32} {ym : Nat → Nat → Int32} (hR : Rl k n z g d1 rr1 x1 d2 rr2 x2 oL pm ym) : 0 ≤ (pm 1).toInt ∧ (pm 1).toInt ≤ 65536 := by
  obtain ⟨j, hj, hj5, h⟩ := hR
  have := h.2.2.1.1
  have := h.2.2.1.2.1
  omega
theorem Rl_p1 {k n : Nat} {z : Nat → Int32} {g : Nat → Int32} {d1 : Nat → Int32} {rr1 : Nat → Int32} {x1 : Nat → Nat → Int32} {d2 : Nat → Int32} {rr2 : Nat → Int32} {x2 : Nat → Nat → Int32} {oL : Nat → Int32} {pm : Nat → Int32} {ym : Nat → Nat → Int32} (hR : Rl k n z g d1 rr1 x1 d2 rr2 x2 oL pm ym) (hk : k < 512) : d1 1 < d1 0 → ¬ nI n ≤ d1 1 := by
  obtain ⟨j, hj, hj5, h⟩ := hR
  intro c
  have h4 := h.2.2.2.1
  have e : d1 0 = pm 1 := h4.1.1
  have b := h4.2.1
  obtain ⟨w1, w2, w3, w4, w5, w6⟩ := h.2.2.1
  rw [pu_lt, e] at c
  rw [pu_le, pu_nI w3]
  by_cases f : (pm 1).toInt ≤ 512
  · have := w5 f; omega
  · have := w6 (by omega); omega
theorem Rl_p2 {k n : Nat} {z : Nat → Int32} {g : Nat → Int32} {d1 : Nat → Int32} {rr1 : Nat → Int32} {x1 : Nat → Nat → Int32} {d2 : Nat → Int32} {rr2 : Nat → Int32} {x2 : Nat → Nat → Int32} {oL : Nat → Int32} {pm : Nat → Int32} {ym : Nat → Nat → Int32} (hR : Rl k n z g d1 rr1 x1 d2 rr2 x2 oL pm ym) (hk : k < 512) : d2 1 < d2 0 → ¬ nI n ≤ d2 1 := by
  obtain ⟨j, hj, hj5, h⟩ := hR
  intro c
  have h4 := h.2.2.2.2.1
  have e : d2 0 = pm 1 := h4.1.1
  have b := h4.2.1
  obtain ⟨w1, w2, w3, w4, w5, w6⟩ := h.2.2.1
  rw [pu_lt, e] at c
  rw [pu_le, pu_nI w3]
  by_cases f : (pm 1).toInt ≤ 512
  · have := w5 f; omega
  · have := w6 (by omega); omega
theorem R_thresholds {k n : Nat} {z : Nat → Int32} {g : Nat → Int32} {d1 : Nat → Int32} {rr1 : Nat → Int32} {x1 : Nat → Nat → Int32} {d2 : Nat → Int32} {rr2 : Nat → Int32} {x2 : Nat → Nat → Int32} {oL : Nat → Int32} {pm : Nat → Int32} {ym : Nat → Nat → Int32} (hR : Rl k n z g d1 rr1 x1 d2 rr2 x2 oL pm ym) (hk : k < 512) {oS : Nat → Int32} {fo : Nat → Int64} {v : Int32} {w : Int32} {q : Int32} {r : Int32} {b : Int32} {z' : Nat → Int32} {g' : Nat → Int32} {d1' : Nat → Int32} {rr1' : Nat → Int32} {x1' : Nat → Nat → Int32} {d2' : Nat → Int32} {rr2' : Nat → Int32} {x2' : Nat → Nat → Int32} {oL' : Nat → Int32} {fo' : Nat → Int64} {pm' : Nat → Int32} (e1 : w_thresholds n n z g d1 rr1 x1 d2 rr2 x2 oL oS v w q fo = (r, z', g', d1', rr1', x1', d2', rr2', x2', oL', fo')) (e2 : f_m_thresholds pm ym v w q = (b, pm')) : pm' 0 = r ∧ (r = 0 → fo' (0 : Int32).toNatClampNeg = (if b = 0 then 0 else 1)) ∧ Rl (k + 1) n z' g' d1' rr1' x1' d2' rr2' x2' oL' pm' ym := by
  obtain ⟨j, hj, hj5, h⟩ := hR
  obtain ⟨b0, p0, E2, H⟩ := pu_TH (oS := oS) (v := v) (w := w) (q := q) h (by omega)
  rw [E2] at e2
  cases e2
  unfold w_thresholds at e1
  rcases H with ⟨E1, H1, H2⟩ | ⟨g0, E1, H1, H2⟩
  · rw [E1] at e1
    cases e1
    exact ⟨H1, fun q => absurd q (by decide), ⟨j, by omega, by omega, H2⟩⟩
  · rw [E1] at e1
    cases e1
    exact ⟨H1, fun _ => if_pos rfl, ⟨j, by omega, by omega, H2⟩⟩
theorem R_reset {k n : Nat} {z : Nat → Int32} {g : Nat → Int32} {d1 : Nat → Int32} {rr1 : Nat → Int32} {x1 : Nat → Nat → Int32} {d2 : Nat → Int32} {rr2 : Nat → Int32} {x2 : Nat → Nat → Int32} {oL : Nat → Int32} {pm : Nat → Int32} {ym : Nat → Nat → Int32} (hR : Rl k n z g d1 rr1 x1 d2 rr2 x2 oL pm ym) (hk : k < 512) {oS : Nat → Int32} {fo : Nat → Int64} {v : Int32} {r : Int32} {b : Int32} {z' : Nat → Int32} {g' : Nat → Int32} {d1' : Nat → Int32} {rr1' : Nat → Int32} {x1' : Nat → Nat → Int32} {d2' : Nat → Int32} {rr2' : Nat → Int32} {x2' : Nat → Nat → Int32} {oL' : Nat → Int32} {fo' : Nat → Int64} {pm' : Nat → Int32} (e1 : w_reset n n z g d1 rr1 x1 d2 rr2 x2 oL oS v fo = (r, z', g', d1', rr1', x1', d2', rr2', x2', oL', fo')) (e2 : f_m_reset pm ym v = (b, pm')) : pm' 0 = r ∧ (r = 0 → fo' (0 : Int32).toNatClampNeg = (if b = 0 then 0 else 1)) ∧ Rl (k + 1) n z' g' d1' rr1' x1' d2' rr2' x2' oL' pm' ym := by
  obtain ⟨j, hj, hj5, h⟩ := hR
  obtain ⟨b0, p0, E2, H⟩ := pu_RE (oS := oS) (v := v) h (by omega)
  rw [E2] at e2
  cases e2
  unfold w_reset at e1
  rcases H with ⟨E1, H1, H2⟩ | ⟨g0, E1, H1, H2⟩
  · rw [E1] at e1
    cases e1
    exact ⟨H1, fun q => absurd q (by decide), ⟨j, by omega, by omega, H2⟩⟩
  · rw [E1] at e1
    cases e1
    exact ⟨H1, fun _ => if_pos rfl, ⟨j, by omega, by omega, H2⟩⟩
theorem R_sample {k n : Nat} {z : Nat → Int32} {g : Nat → Int32} {d1 : Nat → Int32} {rr1 : Nat → Int32} {x1 : Nat → Nat → Int32} {d2 : Nat → Int32} {rr2 : Nat → Int32} {x2 : Nat → Nat → Int32} {oL : Nat → Int32} {pm : Nat → Int32} {ym : Nat → Nat → Int32} (hR : Rl k n z g d1 rr1 x1 d2 rr2 x2 oL pm ym) (hk : k < 512) {oS : Nat → Int32} {fo : Nat → Int64} {v : Int32} {w : Int32} {r : Int32} {b : Int32} {z' : Nat → Int32} {g' : Nat → Int32} {d1' : Nat → Int32} {rr1' : Nat → Int32} {x1' : Nat → Nat → Int32} {d2' : Nat → Int32} {rr2' : Nat → Int32} {x2' : Nat → Nat → Int32} {oL' : Nat → Int32} {fo' : Nat → Int64} {pm' : Nat → Int32} {ym' : Nat → Nat → Int32} (e1 : w_sample n n z g d1 rr1 x1 d2 rr2 x2 oL oS v w fo = (r, z', g', d1', rr1', x1', d2', rr2', x2', oL', fo')) (e2 : f_m_sample pm ym v w = (b, pm', ym')) : pm' 0 = r ∧ (r = 0 → fo' (0 : Int32).toNatClampNeg = (b).toInt64) ∧ Rl (k + 1) n z' g' d1' rr1' x1' d2' rr2' x2' oL' pm' ym' := by
  obtain ⟨j, hj, hj5, h⟩ := hR
  obtain ⟨b0, p0, y0, E2, H⟩ := pu_SA (oS := oS) (v := v) (w := w) h (by omega)
  rw [E2] at e2
  cases e2
  unfold w_sample at e1
  rcases H with ⟨c, E1, H1, H2, H3⟩ | ⟨z0, da, ra, xa, oa, E1, H1, H2⟩
  · rw [E1] at e1
    cases e1
    refine ⟨H1, fun q => ?_, ⟨j, by omega, by omega, ?_⟩⟩
    · exfalso
      split at q <;> exact absurd q (by decide)
    · rw [H2]; exact h.kp H3
  · rw [E1] at e1
    cases e1
    exact ⟨H1, fun _ => if_pos rfl, ⟨j + 1, by omega, by omega, H2⟩⟩
theorem R_back {k n : Nat} {z : Nat → Int32} {g : Nat → Int32} {d1 : Nat → Int32} {rr1 : Nat → Int32} {x1 : Nat → Nat → Int32} {d2 : Nat → Int32} {rr2 : Nat → Int32} {x2 : Nat → Nat → Int32} {oL : Nat → Int32} {pm : Nat → Int32} {ym : Nat → Nat → Int32} (hR : Rl k n z g d1 rr1 x1 d2 rr2 x2 oL pm ym) (hk : k < 512) {oS : Nat → Int32} {fo : Nat → Int64} {v : Int32} {w : Int32} {r : Int32} {b : Int32} {z' : Nat → Int32} {g' : Nat → Int32} {d1' : Nat → Int32} {rr1' : Nat → Int32} {x1' : Nat → Nat → Int32} {d2' : Nat → Int32} {rr2' : Nat → Int32} {x2' : Nat → Nat → Int32} {oL' : Nat → Int32} {fo' : Nat → Int64} {pm' : Nat → Int32} {ym' : Nat → Nat → Int32} (e1 : w_back n n z g d1 rr1 x1 d2 rr2 x2 oL oS v w fo = (r, z', g', d1', rr1', x1', d2', rr2', x2', oL', fo')) (e2 : f_m_back pm ym v w = (b, pm', ym')) : pm' 0 = r ∧ (r = 0 → fo' (0 : Int32).toNatClampNeg = (b).toInt64) ∧ Rl (k + 1) n z' g' d1' rr1' x1' d2' rr2' x2' oL' pm' ym' := by
  obtain ⟨j, hj, hj5, h⟩ := hR
  obtain ⟨b0, p0, y0, E2, H⟩ := pu_BA (oS := oS) (v := v) (w := w) h.swap (by omega)
  rw [E2] at e2
  cases e2
  unfold w_back at e1
  rcases H with ⟨c, E1, H1, H2, H3⟩ | ⟨z0, da, ra, xa, oa, E1, H1, H2⟩
  · rw [E1] at e1
    cases e1
    refine ⟨H1, fun q => ?_, ⟨j, by omega, by omega, ?_⟩⟩
    · exfalso
      split at q <;> exact absurd q (by decide)
    · rw [H2]; exact h.kp H3
  · rw [E1] at e1
    cases e1
    exact ⟨H1, fun _ => if_pos rfl, ⟨j + 1, by omega, by omega, H2.swap⟩⟩
theorem R_endRow {k n : Nat} {z : Nat → Int32} {g : Nat → Int32} {d1 : Nat → Int32} {rr1 : Nat → Int32} {x1 : Nat → Nat → Int32} {d2 : Nat → Int32} {rr2 : Nat → Int32} {x2 : Nat → Nat → Int32} {oL : Nat → Int32} {pm : Nat → Int32} {ym : Nat → Nat → Int32} (hR : Rl k n z g d1 rr1 x1 d2 rr2 x2 oL pm ym) (hk : k < 512) {oS : Nat → Int32} {r : Int32} {b : Int32} {d1' : Nat → Int32} {d2' : Nat → Int32} {pm' : Nat → Int32} {ym' : Nat → Nat → Int32} (e1 : f_endRow n n z g d1 rr1 x1 d2 rr2 x2 oL oS = (r, d1', d2')) (e2 : f_m_endRow pm ym = (b, pm', ym')) : r = b ∧ Rl (k + 1) n z g d1' rr1 x1 d2' rr2 x2 oL pm' ym' := by
  obtain ⟨j, hj, hj5, h⟩ := hR
  obtain ⟨b0, D, D', p0, y0, E2, E1, H⟩ := pu_ER (oS := oS) h (by omega)
  rw [E2] at e2
  rw [E1] at e1
  cases e2
  cases e1
  exact ⟨rfl, ⟨j + 1, by omega, by omega, H⟩⟩
theorem R_context {k n : Nat} {z : Nat → Int32} {g : Nat → Int32} {d1 : Nat → Int32} {rr1 : Nat → Int32} {x1 : Nat → Nat → Int32} {d2 : Nat → Int32} {rr2 : Nat → Int32} {x2 : Nat → Nat → Int32} {oL : Nat → Int32} {pm : Nat → Int32} {ym : Nat → Nat → Int32} (hR : Rl k n z g d1 rr1 x1 d2 rr2 x2 oL pm ym) (hk : k < 512) {oS : Nat → Int32} {r : Int32} {b : Int32}  {pm' : Nat → Int32} (e1 : f_context n n z g d1 rr1 x1 d2 rr2 x2 oL oS = r) (e2 : f_m_context pm ym = (b, pm')) : r = b ∧ Rl (k + 1) n z g d1 rr1 x1 d2 rr2 x2 oL pm' ym := by
  obtain ⟨j, hj, hj5, h⟩ := hR
  unfold f_m_context at e2
  unfold f_context at e1
  cases e2
  cases e1
  exact ⟨h.2.2.2.2.2.2.2.2.2.2.2.2.2.2.2.1, ⟨j, by omega, by omega, h.kp pu_KP0⟩⟩
theorem R_predicted {k n : Nat} {z : Nat → Int32} {g : Nat → Int32} {d1 : Nat → Int32} {rr1 : Nat → Int32} {x1 : Nat → Nat → Int32} {d2 : Nat → Int32} {rr2 : Nat → Int32} {x2 : Nat → Nat → Int32} {oL : Nat → Int32} {pm : Nat → Int32} {ym : Nat → Nat → Int32} (hR : Rl k n z g d1 rr1 x1 d2 rr2 x2 oL pm ym) (hk : k < 512) {oS : Nat → Int32} {r : Int32} {b : Int32}  {pm' : Nat → Int32} (e1 : f_predicted n n z g d1 rr1 x1 d2 rr2 x2 oL oS = r) (e2 : f_m_predicted pm ym = (b, pm')) : r = b ∧ Rl (k + 1) n z g d1 rr1 x1 d2 rr2 x2 oL pm' ym := by
  obtain ⟨j, hj, hj5, h⟩ := hR
  unfold f_m_predicted at e2
  unfold f_predicted at e1
  cases e2
  cases e1
  exact ⟨h.2.2.2.2.2.2.2.2.2.2.2.2.2.2.2.2, ⟨j, by omega, by omega, h.kp pu_KP0⟩⟩
theorem R_neighbour {k n : Nat} {z : Nat → Int32} {g : Nat → Int32} {d1 : Nat → Int32} {rr1 : Nat → Int32} {x1 : Nat → Nat → Int32} {d2 : Nat → Int32} {rr2 : Nat → Int32} {x2 : Nat → Nat → Int32} {oL : Nat → Int32} {pm : Nat → Int32} {ym : Nat → Nat → Int32} (hR : Rl k n z g d1 rr1 x1 d2 rr2 x2 oL pm ym) (hk : k < 512) {oS : Nat → Int32} {fo : Nat → Int64} {v : Int32} {r : Int32} {b : Int32} {z' : Nat → Int32} {g' : Nat → Int32} {d1' : Nat → Int32} {rr1' : Nat → Int32} {x1' : Nat → Nat → Int32} {d2' : Nat → Int32} {rr2' : Nat → Int32} {x2' : Nat → Nat → Int32} {oL' : Nat → Int32} {fo' : Nat → Int64} {pm' : Nat → Int32} (e1 : w_neighbour n n z g d1 rr1 x1 d2 rr2 x2 oL oS v fo = (r, z', g', d1', rr1', x1', d2', rr2', x2', oL', fo')) (e2 : f_m_neighbour pm ym v = (b, pm')) : pm' 0 = r ∧ (r = 0 → fo' (0 : Int32).toNatClampNeg = (b).toInt64) ∧ Rl (k + 1) n z' g' d1' rr1' x1' d2' rr2' x2' oL' pm' ym := by
  obtain ⟨j, hj, hj5, h⟩ := hR
  obtain ⟨b0, p0, E2, H0, H⟩ := pu_NE (oS := oS) (v := v) h
  rw [E2] at e2
  cases e2
  unfold w_neighbour at e1
  rcases H with ⟨c, E1, H1⟩ | ⟨E1, H1⟩
  · rw [E1] at e1
    cases e1
    exact ⟨H1, fun q => absurd q (by decide), ⟨j, by omega, by omega, h.kp H0⟩⟩
  · rw [E1] at e1
    cases e1
    exact ⟨H1, fun _ => if_pos rfl, ⟨j, by omega, by omega, h.kp H0⟩⟩
theorem R_state {k n : Nat} {z : Nat → Int32} {g : Nat → Int32} {d1 : Nat → Int32} {rr1 : Nat → Int32} {x1 : Nat → Nat → Int32} {d2 : Nat → Int32} {rr2 : Nat → Int32} {x2 : Nat → Nat → Int32} {oL : Nat → Int32} {pm : Nat → Int32} {ym : Nat → Nat → Int32} (hR : Rl k n z g d1 rr1 x1 d2 rr2 x2 oL pm ym) (hk : k < 512) {oS : Nat → Int32} {fo : Nat → Int64} {v : Int32} {w : Int32} {q : Int32} {r : Int32} {b : Int32} {z' : Nat → Int32} {g' : Nat → Int32} {d1' : Nat → Int32} {rr1' : Nat → Int32} {x1' : Nat → Nat → Int32} {d2' : Nat → Int32} {rr2' : Nat → Int32} {x2' : Nat → Nat → Int32} {oL' : Nat → Int32} {fo' : Nat → Int64} {pm' : Nat → Int32} (e1 : w_state n n z g d1 rr1 x1 d2 rr2 x2 oL oS v w q fo = (r, z', g', d1', rr1', x1', d2', rr2', x2', oL', fo')) (e2 : f_m_state pm ym v w q = (b, pm')) : pm' 0 = r ∧ (r = 0 → fo' (0 : Int32).toNatClampNeg = (b).toInt64) ∧ Rl (k + 1) n z' g' d1' rr1' x1' d2' rr2' x2' oL' pm' ym := by
  obtain ⟨j, hj, hj5, h⟩ := hR
  obtain ⟨b0, p0, E2, H0, H⟩ := pu_ST (oS := oS) (v := v) (w := w) (q := q) h
  rw [E2] at e2
  cases e2
  unfold w_state at e1
  rcases H with ⟨c, E1, H1⟩ | ⟨E1, H1⟩
  · rw [E1] at e1
    cases e1
    exact ⟨H1, fun q => absurd q (by decide), ⟨j, by omega, by omega, h.kp H0⟩⟩
  · rw [E1] at e1
    cases e1
    exact ⟨H1, fun _ => if_pos rfl, ⟨j, by omega, by omega, h.kp H0⟩⟩
theorem R_runs {k n : Nat} {z : Nat → Int32} {g : Nat → Int32} {d1 : Nat → Int32} {rr1 : Nat → Int32} {x1 : Nat → Nat → Int32} {d2 : Nat → Int32} {rr2 : Nat → Int32} {x2 : Nat → Nat → Int32} {oL : Nat → Int32} {pm : Nat → Int32} {ym : Nat → Nat → Int32} (hR : Rl k n z g d1 rr1 x1 d2 rr2 x2 oL pm ym) (hk : k < 512) {oS : Nat → Int32} {r : Int32} {b : Int32}  {pm' : Nat → Int32} (e1 : f_runs n n z g d1 rr1 x1 d2 rr2 x2 oL oS = r) (e2 : f_m_runs pm ym = (b, pm')) : r = b ∧ Rl (k + 1) n z g d1 rr1 x1 d2 rr2 x2 oL pm' ym := by
  obtain ⟨j, hj, hj5, h⟩ := hR
  unfold f_m_runs at e2
  unfold f_runs at e1
  cases e2
  cases e1
  exact ⟨h.2.2.2.2.2.2.2.2.1, ⟨j, by omega, by omega, h.kp pu_KP0⟩⟩
theorem R_quantised {k n : Nat} {z : Nat → Int32} {g : Nat → Int32} {d1 : Nat → Int32} {rr1 : Nat → Int32} {x1 : Nat → Nat → Int32} {d2 : Nat → Int32} {rr2 : Nat → Int32} {x2 : Nat → Nat → Int32} {oL : Nat → Int32} {pm : Nat → Int32} {ym : Nat → Nat → Int32} (hR : Rl k n z g d1 rr1 x1 d2 rr2 x2 oL pm ym) (hk : k < 512) {oS : Nat → Int32} {fo : Nat → Int64} {v : Int32} {r : Int32} {b : Int32} {z' : Nat → Int32} {g' : Nat → Int32} {d1' : Nat → Int32} {rr1' : Nat → Int32} {x1' : Nat → Nat → Int32} {d2' : Nat → Int32} {rr2' : Nat → Int32} {x2' : Nat → Nat → Int32} {oL' : Nat → Int32} {fo' : Nat → Int64} {pm' : Nat → Int32} (e1 : w_quantised n n z g d1 rr1 x1 d2 rr2 x2 oL oS v fo = (r, z', g', d1', rr1', x1', d2', rr2', x2', oL', fo')) (e2 : f_m_quantised pm ym v = (b, pm')) : pm' 0 = r ∧ (r = 0 → fo' (0 : Int32).toNatClampNeg = (b).toInt64) ∧ Rl (k + 1) n z' g' d1' rr1' x1' d2' rr2' x2' oL' pm' ym := by
  obtain ⟨j, hj, hj5, h⟩ := hR
  obtain ⟨b0, p0, E2, H0, H⟩ := pu_QU (oS := oS) (v := v) h
  rw [E2] at e2
  cases e2
  unfold w_quantised at e1
  rcases H with ⟨c, E1, H1⟩ | ⟨E1, H1⟩
  · rw [E1] at e1
    cases e1
    exact ⟨H1, fun q => absurd q (by decide), ⟨j, by omega, by omega, h.kp H0⟩⟩
  · rw [E1] at e1
    cases e1
    exact ⟨H1, fun _ => if_pos rfl, ⟨j, by omega, by omega, h.kp H0⟩⟩
theorem R_setting {k n : Nat} {z : Nat → Int32} {g : Nat → Int32} {d1 : Nat → Int32} {rr1 : Nat → Int32} {x1 : Nat → Nat → Int32} {d2 : Nat → Int32} {rr2 : Nat → Int32} {x2 : Nat → Nat → Int32} {oL : Nat → Int32} {pm : Nat → Int32} {ym : Nat → Nat → Int32} (hR : Rl k n z g d1 rr1 x1 d2 rr2 x2 oL pm ym) (hk : k < 512) {oS : Nat → Int32} {fo : Nat → Int64} {v : Int32} {r : Int32} {b : Int32} {z' : Nat → Int32} {g' : Nat → Int32} {d1' : Nat → Int32} {rr1' : Nat → Int32} {x1' : Nat → Nat → Int32} {d2' : Nat → Int32} {rr2' : Nat → Int32} {x2' : Nat → Nat → Int32} {oL' : Nat → Int32} {fo' : Nat → Int64} {pm' : Nat → Int32} (e1 : w_setting n n z g d1 rr1 x1 d2 rr2 x2 oL oS v fo = (r, z', g', d1', rr1', x1', d2', rr2', x2', oL', fo')) (e2 : f_m_setting pm ym v = (b, pm')) : pm' 0 = r ∧ (r = 0 → fo' (0 : Int32).toNatClampNeg = (b).toInt64) ∧ Rl (k + 1) n z' g' d1' rr1' x1' d2' rr2' x2' oL' pm' ym := by
  obtain ⟨j, hj, hj5, h⟩ := hR
  obtain ⟨b0, p0, E2, H0, H⟩ := pu_SE (oS := oS) (v := v) h
  rw [E2] at e2
  cases e2
  unfold w_setting at e1
  rcases H with ⟨c, E1, H1⟩ | ⟨E1, H1⟩
  · rw [E1] at e1
    cases e1
    exact ⟨H1, fun q => absurd q (by decide), ⟨j, by omega, by omega, h.kp H0⟩⟩
  · rw [E1] at e1
    cases e1
    exact ⟨H1, fun _ => if_pos rfl, ⟨j, by omega, by omega, h.kp H0⟩⟩
theorem R_skip {k n : Nat} {z : Nat → Int32} {g : Nat → Int32} {d1 : Nat → Int32} {rr1 : Nat → Int32} {x1 : Nat → Nat → Int32} {d2 : Nat → Int32} {rr2 : Nat → Int32} {x2 : Nat → Nat → Int32} {oL : Nat → Int32} {pm : Nat → Int32} {ym : Nat → Nat → Int32} (hR : Rl k n z g d1 rr1 x1 d2 rr2 x2 oL pm ym) : Rl (k + 1) n z g d1 rr1 x1 d2 rr2 x2 oL pm ym := by
  obtain ⟨j, hj, hj5, h⟩ := hR
  exact ⟨j, by omega, hj5, h⟩
theorem R_init {n : Nat} {v w q : Int32} {z : Nat → Int32} {g : Nat → Int32} {d1 : Nat → Int32} {rr1 : Nat → Int32} {x1 : Nat → Nat → Int32} {d2 : Nat → Int32} {rr2 : Nat → Int32} {x2 : Nat → Nat → Int32} {oL : Nat → Int32} {oS : Nat → Int32} {pm : Nat → Int32} {ym : Nat → Nat → Int32} (hnw : jmax 1 (jmin (f_within v 1 65536) 512) = nI n) (hn5 : n ≤ 512) (e1 : f_LpInit n v w q = (z, g, d1, rr1, x1, d2, rr2, x2, oL, oS)) (e2 : f_m_init v w q = (pm, ym)) : Rl 0 n z g d1 rr1 x1 d2 rr2 x2 oL pm ym := ⟨0, by omega, by omega, pu_INIT hnw hn5 e1 e2⟩
theorem R_n (v : Int32) : ∃ n : Nat, jmax 1 (jmin (f_within v 1 65536) 512) = nI n ∧ n ≤ 512 := by
  have hW := pu_W (v := v)
  have h := pu_nw hW
  rw [pu_wn]
  refine ⟨(jmax 1 (jmin (f_m_brought v 1 65536) 512)).toInt.toNat, ?_, ?_⟩
  · rw [pu_eq, nI_toInt]
    · rw [h]; split <;> omega
    · rw [h]; split <;> omega
  · rw [h]; split <;> omega
