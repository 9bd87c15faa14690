/-! what the loops rest on -/
def vm_inv (ym : Nat → Nat → Int32) : Prop := ∀ k : Nat, k < 734 → 0 < (ym 7 k).toInt ∧ (ym 7 k).toInt ≤ 256 ∧ 0 ≤ (ym 6 k).toInt ∧ (ym 6 k).toInt ≤ 536870912
theorem ti_div {a b : Int32} (ha : 0 ≤ a.toInt) (hb : 0 < b.toInt) : (a / b).toInt = a.toInt / b.toInt := by
  have h1 := ti_hi a
  have h2 : a.toInt / b.toInt ≤ a.toInt := Int.ediv_le_self _ ha
  have h3 : 0 ≤ a.toInt / b.toInt := Int.ediv_nonneg ha (Int.le_of_lt hb)
  rw [Int32.toInt_div, Int.tdiv_eq_ediv_of_nonneg ha]
  exact Int.bmod_eq_of_le_mul_two (by omega) (by omega)
theorem ti_2 : (2 : Int32).toInt = 2 := by decide
theorem ti_1 : (1 : Int32).toInt = 1 := by decide
theorem ti_0 : (0 : Int32).toInt = 0 := by decide
theorem vm_cl {v : Int32} {n : Nat} (h : vp_in v n) : v.toNatClampNeg < n := Nat.lt_of_not_le (fun q => h (Or.inr q))
theorem vm_n0 {v : Int32} {ym : Nat → Nat → Int32} (hat : vp_in v 734) (h : vm_inv ym) : 0 < (ym 7 v.toNatClampNeg).toInt := (h _ (vm_cl hat)).1
theorem vm_w1 {v : Int32} {ym : Nat → Nat → Int32} (hat : vp_in v 734) (h : vm_inv ym) : ((ym 6 v.toNatClampNeg) + (ym 7 v.toNatClampNeg) / 2).toInt ≤ 1073741824 := by
  obtain ⟨h1, h2, h3, h4⟩ := h _ (vm_cl hat)
  have e := ti_div (a := ym 7 v.toNatClampNeg) (b := 2) (by omega) (by rw [ti_2]; omega)
  rw [ti_2] at e
  rw [ti_add (by omega) (by omega)]; omega
theorem vm_w2 {v : Int32} {ym : Nat → Nat → Int32} (hat : vp_in v 734) (h : vm_inv ym) : ((ym 6 v.toNatClampNeg) + 0).toInt ≤ 1073741824 := by
  obtain ⟨h1, h2, h3, h4⟩ := h _ (vm_cl hat)
  rw [ti_add (by rw [ti_0]; omega) (by rw [ti_0]; omega), ti_0]; omega
def vm_bi (fuel : Nat) (ww nn : Int32) : Prop := 0 < nn.toInt ∧ ww.toInt ≤ 1073741824 ∧ ∃ j : Nat, fuel = j + 1 ∧ ww.toInt ≤ nn.toInt * 2 ^ j
theorem vm_bi0 {ww nn : Int32} : ¬ vm_bi 0 ww nn := fun h => by
  obtain ⟨_, _, j, h, _⟩ := h
  omega
theorem vm_bin {fuel : Nat} {ww nn : Int32} (h : vm_bi (fuel + 1) ww nn) (hc : ¬ ww ≤ nn) : vm_bi fuel ww (2 * nn) := by
  obtain ⟨h0, hw, j, hj, hle⟩ := h
  rw [Int32.le_iff_toInt_le] at hc
  have e : (2 * nn : Int32).toInt = 2 * nn.toInt := by rw [ti_mul (by rw [ti_2]; omega) (by rw [ti_2]; omega), ti_2]
  refine ⟨by omega, hw, ?_⟩
  match j, hj, hle with
  | 0, _, hle => rw [Int.pow_zero, Int.mul_one] at hle; exact absurd hle hc
  | i + 1, hj, hle =>
    refine ⟨i, by omega, ?_⟩
    rw [e, Int.mul_comm 2 nn.toInt, Int.mul_assoc, ← Int.pow_succ']
    exact hle
theorem vm_bis {ww nn : Int32} (hw : ww.toInt ≤ 1073741824) (h0 : 0 < nn.toInt) : vm_bi 32 ww nn := by
  refine ⟨h0, hw, 31, rfl, ?_⟩
  have e : (2 : Int) ^ 31 = 2147483648 := by decide
  rw [e]; omega
def vm_ui (fuel : Nat) (hf ee : Int32) : Prop := 1 ≤ fuel ∧ fuel ≤ 4 ∧ 0 ≤ hf.toInt ∧ hf.toInt ≤ 1000000 ∧ ee.toInt = hf.toInt + 3 - fuel
theorem vm_ui0 {hf ee : Int32} : ¬ vm_ui 0 hf ee := fun h => absurd h.1 (by omega)
theorem vm_uin {fuel : Nat} {hf ee : Int32} (h : vm_ui (fuel + 1) hf ee) (hc : ¬ hf + 1 < ee) : vm_ui fuel hf (ee + 1) := by
  obtain ⟨h1, h2, h3, h4, h5⟩ := h
  rw [Int32.lt_iff_toInt_lt, ti_add (by rw [ti_1]; omega) (by rw [ti_1]; omega), ti_1] at hc
  refine ⟨by omega, by omega, h3, h4, ?_⟩
  rw [ti_add (by rw [ti_1]; omega) (by rw [ti_1]; omega), ti_1]; omega
theorem vm_uis {w : Int32} (hw : 0 ≤ w.toInt ∧ w.toInt ≤ 1000000) : vm_ui 4 (w / 2) ((w / 2) - 1) := by
  have e := ti_div (a := w) (b := 2) hw.1 (by rw [ti_2]; omega)
  rw [ti_2] at e
  refine ⟨by omega, by omega, by omega, by omega, ?_⟩
  rw [ti_sub (by rw [ti_1]; omega) (by rw [ti_1]; omega), ti_1]; omega
