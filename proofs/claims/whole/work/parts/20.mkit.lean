def mk22 (a0 a1 a2 a3 a4 a5 a6 a7 a8 a9 a10 a11 a12 a13 a14 a15 a16 a17 a18 a19 a20 a21 : Int32) : Nat → Int32 | 0 => a0 | 1 => a1 | 2 => a2 | 3 => a3 | 4 => a4 | 5 => a5 | 6 => a6 | 7 => a7 | 8 => a8 | 9 => a9 | 10 => a10 | 11 => a11 | 12 => a12 | 13 => a13 | 14 => a14 | 15 => a15 | 16 => a16 | 17 => a17 | 18 => a18 | 19 => a19 | 20 => a20 | _ => a21
def mky (a0 a1 a2 a3 a4 a5 a6 a7 a8 a9 a10 : Nat → Int32) : Nat → Nat → Int32 | 0 => a0 | 1 => a1 | 2 => a2 | 3 => a3 | 4 => a4 | 5 => a5 | 6 => a6 | 7 => a7 | 8 => a8 | 9 => a9 | _ => a10
abbrev k_Mo (am : Nat → Nat) (pm : Nat → Int32) : va_E := .inr (5, [.int (pm 0), .int (pm 1), .int (pm 2), .int (pm 3), .int (pm 4), .int (pm 5), .int (pm 6), .int (pm 7), .int (pm 8), .int (pm 9), .ref (am 0), .ref (am 1), .ref (am 2), .ref (am 3), .ref (am 4), .ref (am 5), .int (pm 10), .ref (am 6), .ref (am 7), .ref (am 8), .ref (am 9), .int (pm 11), .int (pm 12), .int (pm 13), .int (pm 14), .int (pm 15), .int (pm 16), .int (pm 17), .int (pm 18), .int (pm 19), .ref (am 10), .int (pm 20), .int (pm 21)])
/-! whole numbers of the machine as integers -/
theorem ti_add {a b : Int32} (h1 : -2147483648 ≤ a.toInt + b.toInt) (h2 : a.toInt + b.toInt < 2147483648) : (a + b).toInt = a.toInt + b.toInt := by
  rw [Int32.toInt_add]; exact Int.bmod_eq_of_le_mul_two (by omega) (by omega)
theorem ti_sub {a b : Int32} (h1 : -2147483648 ≤ a.toInt - b.toInt) (h2 : a.toInt - b.toInt < 2147483648) : (a - b).toInt = a.toInt - b.toInt := by
  rw [Int32.toInt_sub]; exact Int.bmod_eq_of_le_mul_two (by omega) (by omega)
theorem ti_mul {a b : Int32} (h1 : -2147483648 ≤ a.toInt * b.toInt) (h2 : a.toInt * b.toInt < 2147483648) : (a * b).toInt = a.toInt * b.toInt := by
  rw [Int32.toInt_mul]; exact Int.bmod_eq_of_le_mul_two (by omega) (by omega)
theorem ti_neg {a : Int32} (h1 : -2147483648 < a.toInt) : (-a).toInt = -a.toInt := by
  have h2 := Int32.toInt_lt a
  rw [Int32.toInt_neg]; exact Int.bmod_eq_of_le_mul_two (by omega) (by omega)
theorem ti_lo (a : Int32) : -2147483648 ≤ a.toInt := by have := Int32.le_toInt a; omega
theorem ti_hi (a : Int32) : a.toInt < 2147483648 := by have := Int32.toInt_lt a; omega
theorem vm_sd {v : Int32} (h : v = 0 ∨ v = 1) : vp_in v 2 := by rw [vp_in_iff]; rcases h with rfl | rfl <;> decide
theorem vm_i0 {v x : Int32} (h : v = 0 ∨ v = 1) (h0 : 0 ≤ x.toInt) (h1 : x.toInt < 65536) : ((65536 * v) + x).toInt = 65536 * v.toInt + x.toInt ∧ 0 ≤ v.toInt ∧ v.toInt ≤ 1 := by
  have e : (65536 * v : Int32).toInt = 65536 * v.toInt ∧ 0 ≤ v.toInt ∧ v.toInt ≤ 1 := by rcases h with rfl | rfl <;> decide
  refine ⟨?_, e.2⟩
  rw [ti_add (by omega) (by omega), e.1]
theorem vm_b0 {v x w : Int32} (h : v = 0 ∨ v = 1) (hx : 0 ≤ x.toInt ∧ x.toInt < w.toInt ∧ w.toInt ≤ 65536) : vp_in ((65536 * v) + x) 131072 := by
  have e := vm_i0 h hx.1 (by omega)
  rw [vp_in_iff, e.1]; omega
theorem vm_b1 {v x w : Int32} (h : v = 0 ∨ v = 1) (hx : 0 ≤ x.toInt ∧ x.toInt < w.toInt ∧ w.toInt ≤ 65536) (hn : ¬ x = 0) : vp_in (((65536 * v) + x) - 1) 131072 := by
  have e := vm_i0 h hx.1 (by omega)
  have hn : ¬ x.toInt = 0 := fun q => hn (Int32.toInt_inj.mp (q.trans (by decide)))
  have e1 : (1 : Int32).toInt = 1 := by decide
  rw [vp_in_iff, ti_sub (by rw [e.1, e1]; omega) (by rw [e.1, e1]; omega), e.1, e1]; omega
theorem vm_b2 {v x w : Int32} (h : v = 0 ∨ v = 1) (hx : 0 ≤ x.toInt ∧ x.toInt < w.toInt ∧ w.toInt ≤ 65536) (hn : ¬ x + 1 = w) : vp_in (((65536 * v) + x) + 1) 131072 := by
  have e := vm_i0 h hx.1 (by omega)
  have e1 : (1 : Int32).toInt = 1 := by decide
  have hn : ¬ x.toInt + 1 = w.toInt := fun q => hn (Int32.toInt_inj.mp (by rw [ti_add (by rw [e1]; omega) (by rw [e1]; omega), e1]; exact q))
  rw [vp_in_iff, ti_add (by rw [e.1, e1]; omega) (by rw [e.1, e1]; omega), e.1, e1]; omega
theorem vm_nb {v : Int32} (h0 : ¬ v < 0) (h1 : v ≤ 4) : vp_in v 5 := by
  rw [Int32.lt_iff_toInt_lt, Int32.toInt_zero] at h0
  rw [Int32.le_iff_toInt_le, show (4 : Int32).toInt = 4 from by decide] at h1
  rw [vp_in_iff]; omega
theorem vm_st {v w : Int32} (h0 : ¬ v < 0) (h1 : ¬ 1 < v) (h2 : ¬ w < 1) (h3 : ¬ 366 < w) : vp_in ((367 * v) + w) 734 := by
  rw [Int32.lt_iff_toInt_lt, Int32.toInt_zero] at h0
  rw [Int32.lt_iff_toInt_lt, show (1 : Int32).toInt = 1 from by decide] at h1 h2
  rw [Int32.lt_iff_toInt_lt, show (366 : Int32).toInt = 366 from by decide] at h3
  have e : (367 * v : Int32).toInt = 367 * v.toInt := by
    rw [ti_mul (by rw [show (367 : Int32).toInt = 367 from by decide]; omega) (by rw [show (367 : Int32).toInt = 367 from by decide]; omega), show (367 : Int32).toInt = 367 from by decide]
  rw [vp_in_iff, ti_add (by omega) (by omega), e]; omega
theorem vq_out10 {x : Int32} (h0 : ¬ x = 0) (h1 : ¬ x = 1) (h2 : ¬ x = 2) (h3 : ¬ x = 3) (h4 : ¬ x = 4) (h5 : ¬ x = 5) (h6 : ¬ x = 6) (h7 : ¬ x = 7) (h8 : ¬ x = 8) (h9 : ¬ x = 9) : x.toInt < 0 ∨ 9 < x.toInt := by
  have a0 : ¬ x.toInt = 0 := fun h => h0 (Int32.toInt_inj.mp (h.trans (by decide)))
  have a1 : ¬ x.toInt = 1 := fun h => h1 (Int32.toInt_inj.mp (h.trans (by decide)))
  have a2 : ¬ x.toInt = 2 := fun h => h2 (Int32.toInt_inj.mp (h.trans (by decide)))
  have a3 : ¬ x.toInt = 3 := fun h => h3 (Int32.toInt_inj.mp (h.trans (by decide)))
  have a4 : ¬ x.toInt = 4 := fun h => h4 (Int32.toInt_inj.mp (h.trans (by decide)))
  have a5 : ¬ x.toInt = 5 := fun h => h5 (Int32.toInt_inj.mp (h.trans (by decide)))
  have a6 : ¬ x.toInt = 6 := fun h => h6 (Int32.toInt_inj.mp (h.trans (by decide)))
  have a7 : ¬ x.toInt = 7 := fun h => h7 (Int32.toInt_inj.mp (h.trans (by decide)))
  have a8 : ¬ x.toInt = 8 := fun h => h8 (Int32.toInt_inj.mp (h.trans (by decide)))
  have a9 : ¬ x.toInt = 9 := fun h => h9 (Int32.toInt_inj.mp (h.trans (by decide)))
  omega
def w_Mo_brought : List Cond := .code y_Mo_brought b_Mo_brought 3 (some .int) :: vU
def w_Mo_size : List Cond := .code y_Mo_size b_Mo_size 1 (some .int) :: vU
def w_Mo_greater : List Cond := .code y_Mo_greater b_Mo_greater 2 (some .int) :: vU
def w_Mo_thrown : List Cond := .code y_Mo_thrown b_Mo_thrown 1 (some .int) :: vU
def w_Mo_numberOf : List Cond := .code y_Mo_numberOf b_Mo_numberOf 2 (some .int) :: vU
def w_Mo_isNear : List Cond := .code y_Mo_isNear b_Mo_isNear 2 (some .boolean) :: vU
def w_Mo_around : List Cond := .code y_Mo_around b_Mo_around 3 (some .int) :: vU
def w_Mo_quantise : List Cond := .code y_Mo_quantise b_Mo_quantise 2 (some .int) :: vU
def w_Mo_isEnd : List Cond := .code y_Mo_isEnd b_Mo_isEnd 2 (some .boolean) :: vU
def w_Mo_kindOf : List Cond := .code y_Mo_kindOf b_Mo_kindOf 2 (some .int) :: vU
def w_Mo_isFresh : List Cond := .code y_Mo_isFresh b_Mo_isFresh 1 (some .boolean) :: vU
def w_Mo_isTurn : List Cond := .code y_Mo_isTurn b_Mo_isTurn 3 (some .boolean) :: vU
def w_Mo_noteLast : List Cond := .code y_Mo_noteLast b_Mo_noteLast 3 none :: vU
def w_Mo_halve : List Cond := .code y_Mo_halve b_Mo_halve 2 none :: vU
def w_Mo_learn : List Cond := .code y_Mo_learn b_Mo_learn 4 none :: vU
def w_Mo_thresholds : List Cond := .code y_Mo_thresholds b_Mo_thresholds 5 (some .boolean) :: vU
def w_Mo_reset : List Cond := .code y_Mo_reset b_Mo_reset 2 (some .boolean) :: vU
def w_Mo_context : List Cond := .code y_Mo_context b_Mo_context 1 (some .int) :: vU
def w_Mo_predicted : List Cond := .code y_Mo_predicted b_Mo_predicted 1 (some .int) :: vU
def w_Mo_runs : List Cond := .code y_Mo_runs b_Mo_runs 1 (some .int) :: vU
def w_Mo_neighbour : List Cond := .code y_Mo_neighbour b_Mo_neighbour 2 (some .int) :: vU
def w_Mo_state : List Cond := .code y_Mo_state b_Mo_state 5 (some .int) :: vU
def w_Mo_quantised : List Cond := .code y_Mo_quantised b_Mo_quantised 2 (some .int) :: vU
def w_Mo_setting : List Cond := .code y_Mo_setting b_Mo_setting 2 (some .int) :: vU
def w_Mo_look : List Cond := .code y_Mo_look b_Mo_look 8 none :: vU
def w_Mo_layThresholds : List Cond := .code y_Mo_layThresholds b_Mo_layThresholds 2 none :: vU
def w_Mo_lay : List Cond := .code y_Mo_lay b_Mo_lay 3 none :: vU
def w_Mo_bitsOf : List Cond := .code y_Mo_bitsOf b_Mo_bitsOf 5 (some .int) :: vU
def w_Mo_fold : List Cond := .code y_Mo_fold b_Mo_fold 6 (some .int) :: vU
def w_Mo_unfold : List Cond := .code y_Mo_unfold b_Mo_unfold 6 (some .int) :: vU
