def tOr (mx a lo : Int32) : Int32 := if a < lo then lo else if a ≤ mx then a else lo
theorem tOr_b {mx a lo : Int32} (h : lo.toInt ≤ mx.toInt) : lo.toInt ≤ (tOr mx a lo).toInt ∧ (tOr mx a lo).toInt ≤ mx.toInt := by
  unfold tOr
  by_cases c : a < lo
  · rw [if_pos c]; omega
  · rw [if_neg c]
    by_cases e : a ≤ mx
    · rw [if_pos e]; rw [pu_lt] at c; rw [pu_le] at e; omega
    · rw [if_neg e]; omega
theorem pu_lj1 {pm pj : Nat → Int32} {ym : Nat → Nat → Int32} : f_m_layThresholds_j1 pm ym pj = mk22 (pj 0) (pj 1) (pj 2) (pj 3) (pj 4) (pj 5) (pj 6) (pj 7) (tOr (pj 2) (pj 8) (pj 7)) (pj 9) (pj 10) (pj 11) (pj 12) (pj 13) (pj 14) (pj 15) (pj 16) (pj 17) (pj 18) (pj 19) (pj 20) (pj 21) := by
  unfold f_m_layThresholds_j1 tOr
  by_cases c : pj 8 < pj 7
  · rw [if_pos c, if_pos c]
  · rw [if_neg c, if_neg c]
    by_cases e : pj 8 ≤ pj 2
    · rw [if_pos e, if_pos e]
    · rw [if_neg e, if_neg e]
theorem pu_lj4 {pm pj : Nat → Int32} {ym : Nat → Nat → Int32} : f_m_layThresholds_j4 pm ym pj = mk22 (pj 0) (pj 1) (pj 2) (pj 3) (pj 4) (pj 5) (pj 6) (tOr (pj 2) (pj 7) (pj 6)) (tOr (pj 2) (pj 8) (tOr (pj 2) (pj 7) (pj 6))) (pj 9) (pj 10) (pj 11) (pj 12) (pj 13) (pj 14) (pj 15) (pj 16) (pj 17) (pj 18) (pj 19) (pj 20) (pj 21) := by
  unfold f_m_layThresholds_j4
  rw [pu_lj1, pu_lj1]
  have key : ∀ t : Int32, t = tOr (pj 2) (pj 7) (pj 6) → mk22 (pj 0) (pj 1) (pj 2) (pj 3) (pj 4) (pj 5) (pj 6) t (tOr (pj 2) (pj 8) t) (pj 9) (pj 10) (pj 11) (pj 12) (pj 13) (pj 14) (pj 15) (pj 16) (pj 17) (pj 18) (pj 19) (pj 20) (pj 21) = mk22 (pj 0) (pj 1) (pj 2) (pj 3) (pj 4) (pj 5) (pj 6) (tOr (pj 2) (pj 7) (pj 6)) (tOr (pj 2) (pj 8) (tOr (pj 2) (pj 7) (pj 6))) (pj 9) (pj 10) (pj 11) (pj 12) (pj 13) (pj 14) (pj 15) (pj 16) (pj 17) (pj 18) (pj 19) (pj 20) (pj 21) := fun t ht => by subst ht; rfl
  by_cases c : pj 7 < pj 6
  · rw [if_pos c]; exact key (pj 6) (by unfold tOr; rw [if_pos c])
  · rw [if_neg c]
    by_cases e : pj 7 ≤ pj 2
    · rw [if_pos e]; exact key (pj 7) (by unfold tOr; rw [if_neg c, if_pos e])
    · rw [if_neg e]; exact key (pj 6) (by unfold tOr; rw [if_neg c, if_neg e])
theorem pu_lj7 {pm pj : Nat → Int32} {ym : Nat → Nat → Int32} (h0 : 0 ≤ (pj 3).toInt) (h1 : (pj 3).toInt ≤ 255) : f_m_layThresholds_j7 pm ym pj = mk22 (pj 0) (pj 1) (pj 2) (pj 3) (pj 4) (pj 5) (tOr (pj 2) (pj 6) (pj 3 + 1)) (tOr (pj 2) (pj 7) (tOr (pj 2) (pj 6) (pj 3 + 1))) (tOr (pj 2) (pj 8) (tOr (pj 2) (pj 7) (tOr (pj 2) (pj 6) (pj 3 + 1)))) (pj 9) (pj 10) (pj 11) (pj 12) (pj 13) (pj 14) (pj 15) (pj 16) (pj 17) (pj 18) (pj 19) (pj 20) (pj 21) := by
  unfold f_m_layThresholds_j7
  rw [pu_lj4, pu_lj4]
  have e1 : (pj 3 + 1).toInt = (pj 3).toInt + 1 := by rw [ti_add (by rw [ti_1]; omega) (by rw [ti_1]; omega), ti_1]
  have key : ∀ t : Int32, t = tOr (pj 2) (pj 6) (pj 3 + 1) → mk22 (pj 0) (pj 1) (pj 2) (pj 3) (pj 4) (pj 5) t (tOr (pj 2) (pj 7) t) (tOr (pj 2) (pj 8) (tOr (pj 2) (pj 7) t)) (pj 9) (pj 10) (pj 11) (pj 12) (pj 13) (pj 14) (pj 15) (pj 16) (pj 17) (pj 18) (pj 19) (pj 20) (pj 21) = mk22 (pj 0) (pj 1) (pj 2) (pj 3) (pj 4) (pj 5) (tOr (pj 2) (pj 6) (pj 3 + 1)) (tOr (pj 2) (pj 7) (tOr (pj 2) (pj 6) (pj 3 + 1))) (tOr (pj 2) (pj 8) (tOr (pj 2) (pj 7) (tOr (pj 2) (pj 6) (pj 3 + 1)))) (pj 9) (pj 10) (pj 11) (pj 12) (pj 13) (pj 14) (pj 15) (pj 16) (pj 17) (pj 18) (pj 19) (pj 20) (pj 21) := fun t ht => by subst ht; rfl
  by_cases c : pj 6 ≤ pj 3
  · rw [if_pos c]; exact key (pj 3 + 1) (by unfold tOr; rw [if_pos (by rw [pu_le] at c; rw [pu_lt, e1]; omega)])
  · rw [if_neg c]
    by_cases e : pj 6 ≤ pj 2
    · rw [if_pos e]; exact key (pj 6) (by unfold tOr; rw [if_neg (by rw [pu_le] at c; rw [pu_lt, e1]; omega), if_pos e])
    · rw [if_neg e]; exact key (pj 3 + 1) (by unfold tOr; rw [if_neg (by rw [pu_le] at c; rw [pu_lt, e1]; omega), if_neg e])
theorem pu_gr (a b : Int32) : jmax a b = f_m_greater a b := by
  unfold jmax f_m_greater
  by_cases c : a < b
  · rw [if_pos c, if_pos (by rw [pu_lt] at c; rw [pu_le]; omega)]
  · rw [if_neg c]
    by_cases e : a ≤ b
    · rw [if_pos e]; rw [pu_lt] at c; rw [pu_le] at e; exact pu_eq.2 (by omega)
    · rw [if_neg e]
theorem pu_dv {a b : Int32} (h : 0 < b.toInt) : f_divided a b = a / b := by
  unfold f_divided; rw [if_neg (by rw [pu_le, ti_0]; omega)]
theorem pu_LT {g pm : Nat → Int32} {ym : Nat → Nat → Int32} (g0 : g 0 = pm 2) (g1 : g 1 = pm 3) (h0 : 3 ≤ (pm 2).toInt) (h1 : (pm 2).toInt ≤ 65535) (h2 : 0 ≤ (pm 3).toInt) (h3 : (pm 3).toInt ≤ 255) (h4 : (pm 3).toInt + 1 ≤ (pm 2).toInt) :
    ∃ t1 t2 t3 : Int32, f_m_layThresholds pm ym = mk22 (pm 0) (pm 1) (pm 2) (pm 3) (pm 4) (pm 5) t1 t2 t3 (pm 9) (pm 10) (pm 11) (pm 12) (pm 13) (pm 14) (pm 15) (pm 16) (pm 17) (pm 18) (pm 19) (pm 20) (pm 21) ∧ f_setFirstThresholds g = mk8 (g 0) (g 1) (g 2) (g 3) t1 t2 t3 (g 7) ∧ (pm 3).toInt < t1.toInt ∧ t1.toInt ≤ t2.toInt ∧ t2.toInt ≤ t3.toInt ∧ t3.toInt ≤ (pm 2).toInt := by
  have e1 : (pm 3 + 1).toInt = (pm 3).toInt + 1 := by rw [ti_add (by rw [ti_1]; omega) (by rw [ti_1]; omega), ti_1]
  have bnd : ∀ a1 a2 a3 : Int32, (pm 3).toInt < (tOr (pm 2) a1 (pm 3 + 1)).toInt ∧ (tOr (pm 2) a1 (pm 3 + 1)).toInt ≤ (tOr (pm 2) a2 (tOr (pm 2) a1 (pm 3 + 1))).toInt ∧ (tOr (pm 2) a2 (tOr (pm 2) a1 (pm 3 + 1))).toInt ≤ (tOr (pm 2) a3 (tOr (pm 2) a2 (tOr (pm 2) a1 (pm 3 + 1)))).toInt ∧ (tOr (pm 2) a3 (tOr (pm 2) a2 (tOr (pm 2) a1 (pm 3 + 1)))).toInt ≤ (pm 2).toInt := fun a1 a2 a3 => by
    have b1 := tOr_b (mx := pm 2) (a := a1) (lo := pm 3 + 1) (by omega)
    have b2 := tOr_b (mx := pm 2) (a := a2) (lo := tOr (pm 2) a1 (pm 3 + 1)) b1.2
    have b3 := tOr_b (mx := pm 2) (a := a3) (lo := tOr (pm 2) a2 (tOr (pm 2) a1 (pm 3 + 1))) b2.2
    omega
  have e128 : (128 : Int32).toInt = 128 := by decide
  have hto : ∀ (h : Nat → Int32) (w lo : Int32), f_thresholdOr h w lo = tOr (h 0) w lo := fun _ _ _ => rfl
  have e256 : (256 : Int32).toInt = 256 := by decide
  have e4095 : (4095 : Int32).toInt = 4095 := by decide
  have hj : ∀ a1 a2 a3 : Int32, f_m_layThresholds_j7 pm ym (mk22 (pm 0) (pm 1) (pm 2) (pm 3) (pm 4) (pm 5) a1 a2 a3 (pm 9) (pm 10) (pm 11) (pm 12) (pm 13) (pm 14) (pm 15) (pm 16) (pm 17) (pm 18) (pm 19) (pm 20) (pm 21)) = mk22 (pm 0) (pm 1) (pm 2) (pm 3) (pm 4) (pm 5) (tOr (pm 2) a1 (pm 3 + 1)) (tOr (pm 2) a2 (tOr (pm 2) a1 (pm 3 + 1))) (tOr (pm 2) a3 (tOr (pm 2) a2 (tOr (pm 2) a1 (pm 3 + 1)))) (pm 9) (pm 10) (pm 11) (pm 12) (pm 13) (pm 14) (pm 15) (pm 16) (pm 17) (pm 18) (pm 19) (pm 20) (pm 21) := fun a1 a2 a3 => pu_lj7 (pj := mk22 (pm 0) (pm 1) (pm 2) (pm 3) (pm 4) (pm 5) a1 a2 a3 (pm 9) (pm 10) (pm 11) (pm 12) (pm 13) (pm 14) (pm 15) (pm 16) (pm 17) (pm 18) (pm 19) (pm 20) (pm 21)) h2 h3
  unfold f_m_layThresholds f_setFirstThresholds
  rw [g0]
  by_cases c : pm 2 < 128
  · rw [if_pos c, if_pos c]
    rw [pu_lt, e128] at c
    have em : (pm 2 + 1).toInt = (pm 2).toInt + 1 := by rw [ti_add (by rw [ti_1]; omega) (by rw [ti_1]; omega), ti_1]
    have ed : (256 / (pm 2 + 1)).toInt = 256 / ((pm 2).toInt + 1) := by rw [ti_div (by rw [e256]; omega) (by omega), em, e256]
    have hd : 0 < (256 / (pm 2 + 1)).toInt := by
      rw [ed]
      have := Int.le_ediv_of_mul_le (a := 1) (b := 256) (c := (pm 2).toInt + 1) (by omega) (by omega)
      omega
    unfold f_setFirstThresholds_3 f_setFirstThresholds_5 f_setFirstThresholds_7 f_setFirstThresholds_9 f_setFirstThresholds_11 f_setFirstThresholds_13 f_setFirstThresholds_15 f_m_layThresholds_12 f_m_layThresholds_14 f_m_layThresholds_16
    rw [pu_dv (a := 256) (b := pm 2 + 1) (by omega), pu_dv hd, pu_dv hd, pu_dv hd, hj, g1, pu_gr, pu_gr, pu_gr]
    refine ⟨_, _, _, rfl, ?_, bnd _ _ _⟩
    simp only [hto, g0, g1]
    rfl
  · rw [if_neg c, if_neg c]
    rw [pu_lt, e128] at c
    unfold f_setFirstThresholds_17 f_setFirstThresholds_19 f_setFirstThresholds_21
    have ej : jmin (pm 2) 4095 = if 4095 ≤ pm 2 then 4095 else pm 2 := by
      unfold jmin
      by_cases e : 4095 ≤ pm 2
      · rw [if_pos e]
        by_cases f : 4095 < pm 2
        · rw [if_pos f]
        · rw [if_neg f]; rw [pu_le] at e; rw [pu_lt] at f; exact pu_eq.2 (by omega)
      · rw [if_neg e, if_neg (by rw [pu_le] at e; rw [pu_lt]; omega)]
    simp only [g0, g1]
    rw [ej]
    by_cases e : 4095 ≤ pm 2
    · rw [if_pos e, if_pos e, show (4095 + 128 : Int32) = 4223 from by decide, hj]
      refine ⟨_, _, _, rfl, ?_, bnd _ _ _⟩
      simp only [hto, g0]
      rfl
    · rw [if_neg e, if_neg e, hj]
      refine ⟨_, _, _, rfl, ?_, bnd _ _ _⟩
      simp only [hto, g0]
      rfl
theorem pu_i19 {v w q r12 r14 r17 A : Int32} (hA : A = if ((((((((1 : Int32) <<< (r14 &&& 31)) - 1) + (2 * r17)) / ((2 * r17) + 1)) + 1) + 32) / 64) ≤ 2 then 2 else ((((((((1 : Int32) <<< (r14 &&& 31)) - 1) + (2 * r17)) / ((2 * r17) + 1)) + 1) + 32) / 64)) : ∀ (fuel : Nat) (kk : Int32) (fa fn : Nat → Int32), 0 ≤ kk.toInt → kk.toInt ≤ 734 → 734 - kk.toInt < fuel →
    ∃ (fa' fn' : Nat → Int32), fl_m_init_19 fuel v w q r12 r14 r17 kk fa fn = ((f_m_layThresholds (mk22 0 r12 (((1 : Int32) <<< (r14 &&& 31)) - 1) r17 ((2 * r17) + 1) ((((((1 : Int32) <<< (r14 &&& 31)) - 1) + (2 * r17)) / ((2 * r17) + 1)) + 1) 0 0 0 64 0 0 0 0 0 0 0 0 0 0 0 0) (mky (fun _ => 0) (fun _ => 0) (fun _ => 0) (fun _ => 0) (fun _ => 0) (fun _ => 0) fa' fn' (fun _ => 0) (fun _ => 0) (fun _ => 0))), (mky (fun _ => 0) (fun _ => 0) (fun _ => 0) (fun _ => 0) (fun _ => 0) (fun _ => 0) fa' fn' (fun _ => 0) (fun _ => 0) (fun _ => 0))) ∧
      (∀ j : Nat, fa' j = if 65536 * 0 + kk.toInt.toNat ≤ j ∧ j < 65536 * 0 + 734 then A else fa j) ∧ (∀ j : Nat, fn' j = if 65536 * 0 + kk.toInt.toNat ≤ j ∧ j < 65536 * 0 + 734 then 1 else fn j)
  | 0, kk, fa, fn, h0, h1, h2 => absurd h2 (by omega)
  | fuel + 1, kk, fa, fn, h0, h1, h2 => by
    have e734 : (734 : Int32).toInt = 734 := by decide
    unfold fl_m_init_19
    by_cases c : 734 ≤ kk
    · rw [if_pos c]
      rw [pu_le, e734] at c
      refine ⟨fa, fn, rfl, fun j => ?_, fun j => ?_⟩
      · rw [if_neg (by omega)]
      · rw [if_neg (by omega)]
    · rw [if_neg c]
      rw [pu_le, e734] at c
      have hk1 := pu_kk1 (kk := kk) h0 (by omega)
      have hcl : kk.toNatClampNeg = 65536 * 0 + kk.toInt.toNat := by show kk.toInt.toNat = _; omega
      have hb : fb_m_init_19 v w q r12 r14 r17 kk fa fn = (kk + 1, upd fa (65536 * 0 + kk.toInt.toNat) A, upd fn (65536 * 0 + kk.toInt.toNat) 1) := by
        unfold fb_m_init_19
        rw [hcl, hA]
        split <;> rfl
      rw [hb]
      obtain ⟨fa', fn', hE, hJ, hJ'⟩ := pu_i19 (v := v) (w := w) (q := q) (r12 := r12) hA fuel (kk + 1) (upd fa (65536 * 0 + kk.toInt.toNat) A) (upd fn (65536 * 0 + kk.toInt.toNat) 1) (by omega) (by omega) (by omega)
      have e1 : (kk + 1).toInt.toNat = kk.toInt.toNat + 1 := by omega
      rw [e1] at hJ hJ'
      exact ⟨fa', fn', hE, pu_cps (a := fun _ => A) (by omega) hJ, pu_cps (a := fun _ => 1) (by omega) hJ'⟩
theorem pu_i26 {v w q r12 r14 r17 A : Int32} (hA : A = if ((((((((1 : Int32) <<< (r14 &&& 31)) - 1) + (2 * r17)) / ((2 * r17) + 1)) + 1) + 32) / 64) ≤ 2 then 2 else ((((((((1 : Int32) <<< (r14 &&& 31)) - 1) + (2 * r17)) / ((2 * r17) + 1)) + 1) + 32) / 64)) : ∀ (fuel : Nat) (kk : Int32) (fa fn : Nat → Int32), 0 ≤ kk.toInt → kk.toInt ≤ 734 → 734 - kk.toInt < fuel →
    ∃ (fa' fn' : Nat → Int32), fl_m_init_26 fuel v w q r12 r14 r17 kk fa fn = ((f_m_layThresholds (mk22 0 r12 (((1 : Int32) <<< (r14 &&& 31)) - 1) r17 ((2 * r17) + 1) ((((((1 : Int32) <<< (r14 &&& 31)) - 1) + (2 * r17)) / ((2 * r17) + 1)) + 1) 0 0 0 64 0 0 0 0 0 0 0 0 0 0 0 0) (mky (fun _ => 0) (fun _ => 0) (fun _ => 0) (fun _ => 0) (fun _ => 0) (fun _ => 0) fa' fn' (fun _ => 0) (fun _ => 0) (fun _ => 0))), (mky (fun _ => 0) (fun _ => 0) (fun _ => 0) (fun _ => 0) (fun _ => 0) (fun _ => 0) fa' fn' (fun _ => 0) (fun _ => 0) (fun _ => 0))) ∧
      (∀ j : Nat, fa' j = if 65536 * 0 + kk.toInt.toNat ≤ j ∧ j < 65536 * 0 + 734 then A else fa j) ∧ (∀ j : Nat, fn' j = if 65536 * 0 + kk.toInt.toNat ≤ j ∧ j < 65536 * 0 + 734 then 1 else fn j)
  | 0, kk, fa, fn, h0, h1, h2 => absurd h2 (by omega)
  | fuel + 1, kk, fa, fn, h0, h1, h2 => by
    have e734 : (734 : Int32).toInt = 734 := by decide
    unfold fl_m_init_26
    by_cases c : 734 ≤ kk
    · rw [if_pos c]
      rw [pu_le, e734] at c
      refine ⟨fa, fn, rfl, fun j => ?_, fun j => ?_⟩
      · rw [if_neg (by omega)]
      · rw [if_neg (by omega)]
    · rw [if_neg c]
      rw [pu_le, e734] at c
      have hk1 := pu_kk1 (kk := kk) h0 (by omega)
      have hcl : kk.toNatClampNeg = 65536 * 0 + kk.toInt.toNat := by show kk.toInt.toNat = _; omega
      have hb : fb_m_init_26 v w q r12 r14 r17 kk fa fn = (kk + 1, upd fa (65536 * 0 + kk.toInt.toNat) A, upd fn (65536 * 0 + kk.toInt.toNat) 1) := by
        unfold fb_m_init_26
        rw [hcl, hA]
        split <;> rfl
      rw [hb]
      obtain ⟨fa', fn', hE, hJ, hJ'⟩ := pu_i26 (v := v) (w := w) (q := q) (r12 := r12) hA fuel (kk + 1) (upd fa (65536 * 0 + kk.toInt.toNat) A) (upd fn (65536 * 0 + kk.toInt.toNat) 1) (by omega) (by omega) (by omega)
      have e1 : (kk + 1).toInt.toNat = kk.toInt.toNat + 1 := by omega
      rw [e1] at hJ hJ'
      exact ⟨fa', fn', hE, pu_cps (a := fun _ => A) (by omega) hJ, pu_cps (a := fun _ => 1) (by omega) hJ'⟩
theorem pu_mx : ∀ k : Nat, k < 17 → 2 ≤ k → 3 ≤ (((1 : Int32) <<< (nI k &&& 31)) - 1).toInt ∧ (((1 : Int32) <<< (nI k &&& 31)) - 1).toInt ≤ 65535 := by decide
theorem pu_rg {mx nr : Int} (h0 : 1 ≤ mx) (h1 : 0 ≤ nr) : 0 ≤ (mx + 2 * nr) / (2 * nr + 1) ∧ (mx + 2 * nr) / (2 * nr + 1) ≤ mx := by
  refine ⟨Int.ediv_nonneg (by omega) (by omega), ?_⟩
  refine Int.ediv_le_of_le_mul (by omega) ?_
  have : nr * 1 ≤ nr * mx := Int.mul_le_mul_of_nonneg_left h0 h1
  have e : mx * (2 * nr + 1) = 2 * (nr * mx) + mx := by rw [Int.mul_add, Int.mul_one, Int.mul_left_comm, Int.mul_comm mx nr]
  rw [e]; omega
theorem pu_IN {n : Nat} {W mx nr A : Int32} {fa fn : Nat → Int32} {g : Nat → Int32} {x : Nat → Nat → Int32} {pm : Nat → Int32} (hW : RW n W) (hm : 3 ≤ mx.toInt ∧ mx.toInt ≤ 65535) (hn : 0 ≤ nr.toInt ∧ nr.toInt ≤ 255 ∧ nr.toInt ≤ mx.toInt / 2)
    (hA : A = if ((((mx + (2 * nr)) / ((2 * nr) + 1)) + 1) + 32) / 64 ≤ 2 then 2 else ((((mx + (2 * nr)) / ((2 * nr) + 1)) + 1) + 32) / 64) (hfa : ∀ j : Nat, j < 734 → fa j = A) (hfn : ∀ j : Nat, j < 734 → fn j = 1)
    (hpm : pm = f_m_layThresholds (mk22 0 W mx nr ((2 * nr) + 1) (((mx + (2 * nr)) / ((2 * nr) + 1)) + 1) 0 0 0 64 0 0 0 0 0 0 0 0 0 0 0 0) (mky (fun _ => 0) (fun _ => 0) (fun _ => 0) (fun _ => 0) (fun _ => 0) (fun _ => 0) fa fn (fun _ => 0) (fun _ => 0) (fun _ => 0)))
    (hg : g = f_setFirstThresholds (mk8 mx nr ((2 * nr) + 1) ((f_divided (mx + (2 * nr)) ((2 * nr) + 1)) + 1) 0 0 0 64)) (hx : x = f_CoInit g) :
    RR 0 1 0 n (mk2 0 0) g (mk6 W 0 0 0 0 0) (fun _ => 0) x (mk6 W 0 0 0 0 0) (fun _ => 0) x (mk9 0 0 0 0 0 0 0 0 0) pm (mky (fun _ => 0) (fun _ => 0) (fun _ => 0) (fun _ => 0) (fun _ => 0) (fun _ => 0) fa fn (fun _ => 0) (fun _ => 0) (fun _ => 0)) := by
  have e32 : (32 : Int32).toInt = 32 := by decide
  have e64 : (64 : Int32).toInt = 64 := by decide
  have s1 : (2 * nr).toInt = 2 * nr.toInt := by rw [ti_mul (by rw [ti_2]; omega) (by rw [ti_2]; omega), ti_2]
  have s2 : (2 * nr + 1).toInt = 2 * nr.toInt + 1 := by rw [ti_add (by rw [ti_1, s1]; omega) (by rw [ti_1, s1]; omega), ti_1, s1]
  have s3 : (mx + 2 * nr).toInt = mx.toInt + 2 * nr.toInt := by rw [ti_add (by omega) (by omega), s1]
  have s4 : ((mx + 2 * nr) / (2 * nr + 1)).toInt = (mx.toInt + 2 * nr.toInt) / (2 * nr.toInt + 1) := by rw [ti_div (by omega) (by omega), s2, s3]
  have hr := pu_rg (mx := mx.toInt) (nr := nr.toInt) (by omega) (by omega)
  rw [← s4] at hr
  have s5 : ((mx + 2 * nr) / (2 * nr + 1) + 1).toInt = ((mx + 2 * nr) / (2 * nr + 1)).toInt + 1 := by rw [ti_add (by rw [ti_1]; omega) (by rw [ti_1]; omega), ti_1]
  rw [pu_dv (by omega)] at hg
  generalize ((mx + 2 * nr) / (2 * nr + 1) + 1) = R at hA hpm hg s5
  obtain ⟨t1, t2, t3, l1, l2, l3, l4, l5, l6⟩ := pu_LT (g := mk8 mx nr ((2 * nr) + 1) R 0 0 0 64) (pm := mk22 0 W mx nr ((2 * nr) + 1) R 0 0 0 64 0 0 0 0 0 0 0 0 0 0 0 0) (ym := mky (fun _ => 0) (fun _ => 0) (fun _ => 0) (fun _ => 0) (fun _ => 0) (fun _ => 0) fa fn (fun _ => 0) (fun _ => 0) (fun _ => 0)) rfl rfl hm.1 hm.2 hn.1 hn.2.1 (by show nr.toInt + 1 ≤ mx.toInt; omega)
  rw [l1] at hpm
  rw [l2] at hg
  have q1 : (R + 32).toInt = R.toInt + 32 := by rw [ti_add (by rw [e32]; omega) (by rw [e32]; omega), e32]
  have q2 : ((R + 32) / 64).toInt = (R.toInt + 32) / 64 := by rw [ti_div (by omega) (by rw [e64]; omega), e64, q1]
  have bA : 0 ≤ A.toInt ∧ A.toInt ≤ 65900 := by
    rw [hA]; split
    · rw [ti_2]; omega
    · rw [q2]; omega
  have hAg : jmax 2 ((g 3 + 32) / 64) = A := by
    rw [hg, hA]
    show jmax 2 ((R + 32) / 64) = _
    unfold jmax
    by_cases c : (R + 32) / 64 ≤ 2
    · rw [if_pos c, if_neg (by rw [pu_le] at c; rw [pu_lt]; omega)]
    · rw [if_neg c, if_pos (by rw [pu_le] at c; rw [pu_lt]; omega)]
  have hxx : x = mkx (f_fill 367 (fun _ => 0) A) (fun _ => 0) (fun _ => 0) (f_fill 367 (fun _ => 0) 1) := by
    rw [hx]; unfold f_CoInit f_CoInit_6 f_CoInit_8; rw [hAg]
  subst hpm
  subst hg
  rw [hxx]
  clear hx hxx hAg
  have zb : 0 ≤ (0 : Int32).toInt ∧ (0 : Int32).toInt ≤ mx.toInt := by rw [ti_0]; omega
  have hS : ∀ s : Nat, RS s 0 n mx W (mk6 W 0 0 0 0 0) (fun _ => 0) (mky (fun _ => 0) (fun _ => 0) (fun _ => 0) (fun _ => 0) (fun _ => 0) (fun _ => 0) fa fn (fun _ => 0) (fun _ => 0) (fun _ => 0)) := fun s => by
    refine ⟨⟨rfl, rfl, rfl, rfl, Or.inl rfl⟩, ⟨?_, ?_, ?_⟩, ⟨?_, ?_⟩, ?_, ?_, ?_, ?_, ?_, ?_, ?_⟩
    · exact zb.1
    · show (0 : Int32).toInt ≤ ((0 : Nat) : Int)
      rw [ti_0]; omega
    · show (0 : Int32).toInt ≤ W.toInt
      have := hW.1; rw [ti_0]; omega
    · exact zb.1
    · show (0 : Int32).toInt ≤ ((0 : Nat) : Int)
      rw [ti_0]; omega
    · show (0 : Int32) = if (0 : Int32) = 0 then 0 else 0
      rw [if_pos rfl]
    · intro q; exact absurd rfl q
    · intro j hj
      show (0 : Int32) = if _ then (0 : Int32) else 0
      split <;> rfl
    · intro j _ _; rfl
    · intro j _; exact zb
    · intro j _; exact zb
    · exact zb
  have hC : ∀ s : Nat, s ≤ 1 → RC s (mkx (f_fill 367 (fun _ => 0) A) (fun _ => 0) (fun _ => 0) (f_fill 367 (fun _ => 0) 1)) (mky (fun _ => 0) (fun _ => 0) (fun _ => 0) (fun _ => 0) (fun _ => 0) (fun _ => 0) fa fn (fun _ => 0) (fun _ => 0) (fun _ => 0)) := fun s hs j hj => by
    refine ⟨?_, rfl, rfl, ?_⟩
    · show (if j < 367 then A else 0) = fa (367 * s + j)
      rw [if_pos hj, hfa _ (by omega)]
    · show (if j < 367 then 1 else 0) = fn (367 * s + j)
      rw [if_pos hj, hfn _ (by omega)]
  refine ⟨⟨rfl, rfl, rfl, rfl, rfl, rfl, rfl, rfl⟩, ⟨?_, ?_, ?_, ?_, ?_, ?_⟩, hW, hS 0, hS 1, hC 0 (by omega), hC 1 (by omega), ?_, rfl, ⟨?_, ?_⟩, ⟨rfl, rfl, rfl, rfl, rfl, rfl, rfl⟩⟩
  · exact ⟨hn.1, hn.2.1⟩
  · exact hm
  · exact ⟨l3, l4, l5, l6⟩
  · show 1 ≤ (2 * nr + 1).toInt ∧ (2 * nr + 1).toInt ≤ 511
    omega
  · show 1 ≤ R.toInt ∧ R.toInt ≤ 65536
    omega
  · show 3 ≤ (64 : Int32).toInt ∧ (64 : Int32).toInt ≤ 255
    rw [e64]; omega
  · intro j hj
    show 1 ≤ (fn j).toInt ∧ (fn j).toInt ≤ (64 : Int32).toInt ∧ 0 ≤ (fa j).toInt ∧ (fa j).toInt ≤ 65900 * (((0 : Nat) : Int) + 1) ∧ -128 ≤ (0 : Int32).toInt ∧ (0 : Int32).toInt ≤ 127
    rw [hfa j hj, hfn j hj, ti_1, e64, ti_0]; omega
  · intro _; exact ⟨⟨rfl, rfl, rfl, rfl⟩, hfn⟩
  · intro q; exact absurd rfl q
theorem pu_W {v : Int32} : 1 ≤ (f_m_brought v 1 65536).toInt ∧ (f_m_brought v 1 65536).toInt ≤ 65536 := by
  have := f_m_brought_b (v := v) (lo := 1) (hi := 65536) (by rw [ti_1, ti_65536]; omega) rfl
  rw [ti_1, ti_65536] at this; exact this
theorem pu_wn {v : Int32} : f_within v 1 65536 = f_m_brought v 1 65536 := pu_within (by rw [ti_1, ti_65536]; omega)
theorem pu_nw {W : Int32} (h : 1 ≤ W.toInt ∧ W.toInt ≤ 65536) : (jmax 1 (jmin W 512)).toInt = if W.toInt ≤ 512 then W.toInt else 512 := by
  have e512 : (512 : Int32).toInt = 512 := by decide
  have hm : (jmin W 512).toInt = if W.toInt ≤ 512 then W.toInt else 512 := by
    unfold jmin
    by_cases c : W.toInt ≤ 512
    · rw [if_neg (by rw [pu_lt, e512]; omega), if_pos c]
    · rw [if_pos (by rw [pu_lt, e512]; omega), if_neg c, e512]
  unfold jmax
  by_cases c : 1 < jmin W 512
  · rw [if_pos c, hm]
  · rw [if_neg c]
    rw [pu_lt, ti_1, hm] at c
    rw [ti_1]
    split at c <;> split <;> omega
theorem pu_RW {n : Nat} {W : Int32} (h : 1 ≤ W.toInt ∧ W.toInt ≤ 65536) (hn : n ≤ 512) (e : jmax 1 (jmin W 512) = nI n) : RW n W := by
  have h1 := pu_nw h
  rw [e, pu_nI hn] at h1
  refine ⟨h.1, h.2, hn, ?_, ?_, ?_⟩
  · split at h1 <;> omega
  · intro c; rw [if_pos c] at h1; exact h1
  · intro c; rw [if_neg (by omega)] at h1; omega
theorem pu_INIT {n : Nat} {v w q : Int32} (hnw : jmax 1 (jmin (f_within v 1 65536) 512) = nI n) (hn5 : n ≤ 512) {z g d1 rr1 : Nat → Int32} {x1 : Nat → Nat → Int32} {d2 rr2 : Nat → Int32} {x2 : Nat → Nat → Int32} {oL oS pm : Nat → Int32} {ym : Nat → Nat → Int32}
    (e1 : f_LpInit n v w q = (z, g, d1, rr1, x1, d2, rr2, x2, oL, oS)) (e2 : f_m_init v w q = (pm, ym)) : RR 0 1 0 n z g d1 rr1 x1 d2 rr2 x2 oL pm ym := by
  have e255 : (255 : Int32).toInt = 255 := by decide
  have hW := pu_W (v := v)
  rw [pu_wn] at hnw
  have hRW := pu_RW hW hn5 hnw
  obtain ⟨k, hk1, hk2, hB⟩ := vm_bits (w := w) (r := f_m_brought w 2 16) rfl
  have hwb : f_within w 2 16 = f_m_brought w 2 16 := pu_within (by decide)
  have hm := pu_mx k hk1 hk2
  rw [← hB] at hm
  unfold f_LpInit f_LpInit_2 f_LpInit_5 f_LpInit_8 f_LpInit_11 f_SiInit f_SiInit_3 f_ScInit f_ScInit_2 f_ScInit_4 f_ScInit_6 f_ScInit_8 at e1
  rw [pu_wn, hwb] at e1
  unfold f_m_init f_m_init_13 f_m_init_15 f_m_init_18 f_m_init_25 at e2
  generalize f_m_brought w 2 16 = B at e1 e2 hm
  generalize f_m_brought v 1 65536 = W at e1 e2 hRW
  have hmd : ((((1 : Int32) <<< (B &&& 31)) - 1) / 2).toInt = (((1 : Int32) <<< (B &&& 31)) - 1).toInt / 2 := by rw [ti_div (by omega) (by rw [ti_2]; omega), ti_2]
  have hj : jmin 255 ((((1 : Int32) <<< (B &&& 31)) - 1) / 2) = if 255 ≤ ((((1 : Int32) <<< (B &&& 31)) - 1) / 2) then 255 else ((((1 : Int32) <<< (B &&& 31)) - 1) / 2) := by
    unfold jmin
    by_cases c : 255 ≤ ((((1 : Int32) <<< (B &&& 31)) - 1) / 2)
    · rw [if_pos c, if_neg (by rw [pu_le] at c; rw [pu_lt]; omega)]
    · rw [if_neg c, if_pos (by rw [pu_le] at c; rw [pu_lt]; omega)]
  rw [hj] at e1
  by_cases c : 255 ≤ ((((1 : Int32) <<< (B &&& 31)) - 1) / 2)
  · rw [if_pos c] at e2
    rw [if_pos c, pu_within (n := q) (lo := 0) (hi := 255) (by decide)] at e1
    have hnb := f_m_brought_b (v := q) (lo := 0) (hi := 255) (by decide) rfl
    rw [ti_0, e255] at hnb
    rw [pu_le, e255, hmd] at c
    generalize f_m_brought q 0 255 = nr at e1 e2 hnb
    obtain ⟨fa, fn, hE, hJ, hJ'⟩ := pu_i19 (v := v) (w := w) (q := q) (r12 := W) (r14 := B) (r17 := nr) rfl 735 0 (fun _ => 0) (fun _ => 0) (by rw [ti_0]; omega) (by rw [ti_0]; omega) (by rw [ti_0]; omega)
    rw [hE] at e2
    rw [ti_0] at hJ hJ'
    have hR := pu_IN (n := n) (W := W) (nr := nr) (fa := fa) (fn := fn) hRW hm ⟨hnb.1, hnb.2, by omega⟩ rfl (fun j hj => by rw [hJ, if_pos (by omega)]) (fun j hj => by rw [hJ', if_pos (by omega)]) rfl rfl rfl
    cases e1
    cases e2
    exact hR
  · rw [if_neg c] at e2
    rw [if_neg c, pu_within (n := q) (lo := 0) (by rw [ti_0, hmd]; omega)] at e1
    have hnb := f_m_brought_b (v := q) (lo := 0) (hi := ((((1 : Int32) <<< (B &&& 31)) - 1) / 2)) (by rw [ti_0, hmd]; omega) rfl
    rw [pu_le, e255, hmd] at c
    rw [ti_0, hmd] at hnb
    generalize f_m_brought q 0 ((((1 : Int32) <<< (B &&& 31)) - 1) / 2) = nr at e1 e2 hnb
    obtain ⟨fa, fn, hE, hJ, hJ'⟩ := pu_i26 (v := v) (w := w) (q := q) (r12 := W) (r14 := B) (r17 := nr) rfl 735 0 (fun _ => 0) (fun _ => 0) (by rw [ti_0]; omega) (by rw [ti_0]; omega) (by rw [ti_0]; omega)
    rw [hE] at e2
    rw [ti_0] at hJ hJ'
    have hR := pu_IN (n := n) (W := W) (nr := nr) (fa := fa) (fn := fn) hRW hm ⟨hnb.1, by omega, hnb.2⟩ rfl (fun j hj => by rw [hJ, if_pos (by omega)]) (fun j hj => by rw [hJ', if_pos (by omega)]) rfl rfl rfl
    cases e1
    cases e2
    exact hR
