theorem vm_turn {pm : Nat → Int32} {ym : Nat → Nat → Int32} {v w r : Int32} (e : f_m_isTurn pm ym v w = r) (h : ¬ r = 0) : ((ym 3) (v).toNatClampNeg).toInt < (pm 1).toInt := by
  unfold f_m_isTurn at e
  split at e
  · next h1 =>
    split at e
    · exact absurd e.symm h
    · next h2 =>
      rw [← h1]
      rw [Int32.le_iff_toInt_le] at h2
      omega
  · exact absurd e.symm h
theorem vm_xw {pm pm' : Nat → Int32} {ym ym' : Nat → Nat → Int32} {v : Int32} (h : 0 ≤ ((ym 3) (v).toNatClampNeg).toInt ∧ ((ym 3) (v).toNatClampNeg).toInt < (pm 1).toInt ∧ (pm 1).toInt ≤ 65536) (h1 : pm' 1 = pm 1) (h3 : ym' 3 = ym 3) : 0 ≤ ((ym' 3) (v).toNatClampNeg).toInt ∧ ((ym' 3) (v).toNatClampNeg).toInt < (pm' 1).toInt ∧ (pm' 1).toInt ≤ 65536 := by
  rw [h1, h3]; exact h
theorem vm_wi {r : Int32} (h : 0 ≤ r.toInt ∧ r.toInt ≤ 366) : vp_in r 734 := by rw [vp_in_iff]; omega
theorem vm_wi1 {r : Int32} (h : 0 ≤ r.toInt ∧ r.toInt ≤ 366) : vp_in (367 + r) 734 := by
  have e : (367 : Int32).toInt = 367 := by decide
  rw [vp_in_iff, ti_add (by rw [e]; omega) (by rw [e]; omega), e]; omega
theorem vm_hw {w a b : Int32} (h0 : ¬ w < 0) (h1 : w ≤ a) (e : a = b) (hb : b.toInt ≤ 1000000) : 0 ≤ w.toInt ∧ w.toInt ≤ 1000000 := by
  rw [Int32.lt_iff_toInt_lt, ti_0] at h0
  rw [Int32.le_iff_toInt_le, e] at h1
  omega
def vm_ei (fuel : Nat) (wd kk : Int32) : Prop := 0 ≤ kk.toInt ∧ kk.toInt ≤ wd.toInt ∧ kk.toInt + fuel = wd.toInt + 1 ∧ wd.toInt ≤ 65536
theorem vm_ei0 {wd kk : Int32} : ¬ vm_ei 0 wd kk := fun h => by obtain ⟨h1, h2, h3, h4⟩ := h; omega
theorem vm_ein {fuel : Nat} {wd kk : Int32} (h : vm_ei (fuel + 1) wd kk) (hc : ¬ wd ≤ kk) : vm_ei fuel wd (kk + 1) := by
  obtain ⟨h1, h2, h3, h4⟩ := h
  rw [Int32.le_iff_toInt_le] at hc
  have e : (kk + 1).toInt = kk.toInt + 1 := by rw [ti_add (by rw [ti_1]; omega) (by rw [ti_1]; omega), ti_1]
  refine ⟨by omega, by omega, by omega, h4⟩
theorem vm_eis {wd : Int32} (h : 0 ≤ wd.toInt ∧ wd.toInt ≤ 65536) : vm_ei (wd.toInt.toNat + 1) wd 0 := by
  refine ⟨by rw [ti_0]; omega, by rw [ti_0]; omega, by rw [ti_0]; omega, h.2⟩
theorem vm_er0 {fuel : Nat} {wd kk : Int32} (h : vm_ei fuel wd kk) (hc : ¬ wd ≤ kk) : vp_in (0 + kk) 131072 := by
  obtain ⟨h1, h2, h3, h4⟩ := h
  rw [Int32.le_iff_toInt_le] at hc
  rw [vp_in_iff, ti_add (by rw [ti_0]; omega) (by rw [ti_0]; omega), ti_0]; omega
theorem vm_er1 {fuel : Nat} {wd kk : Int32} (h : vm_ei fuel wd kk) (hc : ¬ wd ≤ kk) : vp_in (65536 + kk) 131072 := by
  obtain ⟨h1, h2, h3, h4⟩ := h
  rw [Int32.le_iff_toInt_le] at hc
  have e : (65536 : Int32).toInt = 65536 := by decide
  rw [vp_in_iff, ti_add (by rw [e]; omega) (by rw [e]; omega), e]; omega
theorem vm_odd (r : Int32) : ¬ (2 * r) + 1 = 0 := fun h => by
  have h1 : ((2 * r) + 1).toBitVec.toNat % 2 = (0 : Int32).toBitVec.toNat % 2 := by rw [h]
  rw [Int32.toBitVec_add, Int32.toBitVec_mul, BitVec.toNat_add, BitVec.toNat_mul] at h1
  have e2 : (2 : Int32).toBitVec.toNat = 2 := by decide
  have e1 : (1 : Int32).toBitVec.toNat = 1 := by decide
  have e0 : (0 : Int32).toBitVec.toNat = 0 := by decide
  rw [e2, e1, e0] at h1
  omega
def vm_ci (fuel : Nat) (kk : Int32) : Prop := 0 ≤ kk.toInt ∧ kk.toInt ≤ 734 ∧ kk.toInt + fuel = 735
theorem vm_ci0 {kk : Int32} : ¬ vm_ci 0 kk := fun h => by obtain ⟨h1, h2, h3⟩ := h; omega
theorem vm_cin {fuel : Nat} {kk : Int32} (h : vm_ci (fuel + 1) kk) (hc : ¬ 734 ≤ kk) : vm_ci fuel (kk + 1) := by
  obtain ⟨h1, h2, h3⟩ := h
  rw [Int32.le_iff_toInt_le, show (734 : Int32).toInt = 734 from by decide] at hc
  have e : (kk + 1).toInt = kk.toInt + 1 := by rw [ti_add (by rw [ti_1]; omega) (by rw [ti_1]; omega), ti_1]
  refine ⟨by omega, by omega, by omega⟩
theorem vm_cis : vm_ci 735 0 := ⟨by decide, by decide, by decide⟩
theorem vm_ci1 {fuel : Nat} {kk : Int32} (h : vm_ci fuel kk) (hc : ¬ 734 ≤ kk) : vp_in kk 734 := by
  obtain ⟨h1, h2, h3⟩ := h
  rw [Int32.le_iff_toInt_le, show (734 : Int32).toInt = 734 from by decide] at hc
  rw [vp_in_iff]; omega
theorem f_m_brought_b {v lo hi r : Int32} (h : lo.toInt ≤ hi.toInt) (e : f_m_brought v lo hi = r) : lo.toInt ≤ r.toInt ∧ r.toInt ≤ hi.toInt := by
  rw [← e]; unfold f_m_brought
  repeat' split
  all_goals simp only [Int32.le_iff_toInt_le, Int32.lt_iff_toInt_lt] at *
  all_goals omega
theorem vm_sh : ∀ k : Nat, k < 17 → 2 ≤ k → ¬ (((1 : Int32) <<< (nI k &&& 31)) - 1) + 1 = 0 ∧ (((1 : Int32) <<< (nI k &&& 31)) - 1 < 128 → ¬ 256 / ((((1 : Int32) <<< (nI k &&& 31)) - 1) + 1) = 0) := by decide
theorem vm_bits {w r : Int32} (e : f_m_brought w 2 16 = r) : ∃ k : Nat, k < 17 ∧ 2 ≤ k ∧ r = nI k := by
  have h := f_m_brought_b (by decide) e
  rw [ti_2, show (16 : Int32).toInt = 16 from by decide] at h
  refine ⟨r.toInt.toNat, by omega, by omega, Int32.toInt_inj.mp ?_⟩
  rw [nI_toInt (by omega)]; omega
theorem vm_hm1 {w r : Int32} (e : f_m_brought w 2 16 = r) : ((1 : Int32) <<< (r &&& 31)) - 1 < 128 → ¬ (((1 : Int32) <<< (r &&& 31)) - 1) + 1 = 0 := fun _ => by
  obtain ⟨k, h1, h2, rfl⟩ := vm_bits e
  exact (vm_sh k h1 h2).1
theorem vm_hm2 {w r : Int32} (e : f_m_brought w 2 16 = r) : ((1 : Int32) <<< (r &&& 31)) - 1 < 128 → ¬ 256 / ((((1 : Int32) <<< (r &&& 31)) - 1) + 1) = 0 := fun h => by
  obtain ⟨k, h1, h2, rfl⟩ := vm_bits e
  exact (vm_sh k h1 h2).2 h
abbrev k0_Mo : va_E := .inr (5, [.int 0, .int 0, .int 0, .int 0, .int 0, .int 0, .int 0, .int 0, .int 0, .int 0, .null, .null, .null, .null, .null, .null, .int 0, .null, .null, .null, .null, .int 0, .int 0, .int 0, .int 0, .int 0, .int 0, .int 0, .int 0, .int 0, .null, .int 0, .int 0])
def w_Mo_sample : List Cond := .code y_Mo_sample b_Mo_sample 6 (some .int) :: vU
def w_Mo_back : List Cond := .code y_Mo_back b_Mo_back 7 (some .int) :: vU
def w_Mo_endRow : List Cond := .code y_Mo_endRow b_Mo_endRow 4 (some .boolean) :: vU
def w_Mo_init : List Cond := .code y_Mo_init b_Mo_init 5 none :: vU
