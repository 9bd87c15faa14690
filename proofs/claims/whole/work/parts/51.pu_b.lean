def YU (ym y : Nat → Nat → Int32) (t : Nat) (A B C N : Int32) : Prop :=
  vm_ky ym y ∧ (∀ j : Nat, j ≠ t → y 6 j = ym 6 j ∧ y 7 j = ym 7 j ∧ y 8 j = ym 8 j ∧ y 9 j = ym 9 j) ∧ y 6 t = A ∧ y 8 t = B ∧ y 9 t = C ∧ y 7 t = N
def XU (x x' : Nat → Nat → Int32) (t : Nat) (A B C N : Int32) : Prop :=
  (∀ j : Nat, j ≠ t → x' 0 j = x 0 j ∧ x' 1 j = x 1 j ∧ x' 2 j = x 2 j ∧ x' 3 j = x 3 j) ∧ x' 0 t = A ∧ x' 1 t = B ∧ x' 2 t = C ∧ x' 3 t = N
theorem XU.id (x : Nat → Nat → Int32) (t : Nat) : XU x x t (x 0 t) (x 1 t) (x 2 t) (x 3 t) := ⟨fun _ _ => ⟨rfl, rfl, rfl, rfl⟩, rfl, rfl, rfl, rfl⟩
theorem YU.id (y : Nat → Nat → Int32) (t : Nat) : YU y y t (y 6 t) (y 8 t) (y 9 t) (y 7 t) := ⟨⟨rfl, rfl, rfl, rfl, rfl, rfl, rfl⟩, fun _ _ => ⟨rfl, rfl, rfl, rfl⟩, rfl, rfl, rfl, rfl⟩
theorem upd_at (f : Nat → Int32) (t : Nat) (v : Int32) : upd f t v t = v := if_pos rfl
theorem upd_ne {f : Nat → Int32} {t j : Nat} {v : Int32} (h : j ≠ t) : upd f t v j = f j := if_neg h
theorem upd_upd (f : Nat → Int32) (t : Nat) (v w : Int32) : upd (upd f t v) t w = upd f t w := by
  funext j; unfold upd; by_cases h : j = t
  · rw [if_pos h, if_pos h]
  · rw [if_neg h, if_neg h, if_neg h]
theorem YU.mk {ym y : Nat → Nat → Int32} {t : Nat} {A B C N : Int32} (h : YU ym y t A B C N) {f6 f7 f8 f9 : Nat → Int32} {A' B' C' N' : Int32}
    (h6 : (∀ j, j ≠ t → f6 j = y 6 j) ∧ f6 t = A') (h7 : (∀ j, j ≠ t → f7 j = y 7 j) ∧ f7 t = N') (h8 : (∀ j, j ≠ t → f8 j = y 8 j) ∧ f8 t = B') (h9 : (∀ j, j ≠ t → f9 j = y 9 j) ∧ f9 t = C') :
    YU ym (mky (y 0) (y 1) (y 2) (y 3) (y 4) (y 5) f6 f7 f8 f9 (y 10)) t A' B' C' N' :=
  ⟨h.1, fun j hj => ⟨(h6.1 j hj).trans (h.2.1 j hj).1, (h7.1 j hj).trans (h.2.1 j hj).2.1, (h8.1 j hj).trans (h.2.1 j hj).2.2.1, (h9.1 j hj).trans (h.2.1 j hj).2.2.2⟩, h6.2, h8.2, h9.2, h7.2⟩
theorem XU.mk {x y : Nat → Nat → Int32} {t : Nat} {A B C N : Int32} (h : XU x y t A B C N) {f0 f1 f2 f3 : Nat → Int32} {A' B' C' N' : Int32}
    (h0 : (∀ j, j ≠ t → f0 j = y 0 j) ∧ f0 t = A') (h1 : (∀ j, j ≠ t → f1 j = y 1 j) ∧ f1 t = B') (h2 : (∀ j, j ≠ t → f2 j = y 2 j) ∧ f2 t = C') (h3 : (∀ j, j ≠ t → f3 j = y 3 j) ∧ f3 t = N') :
    XU x (mkx f0 f1 f2 f3) t A' B' C' N' :=
  ⟨fun j hj => ⟨(h0.1 j hj).trans (h.1 j hj).1, (h1.1 j hj).trans (h.1 j hj).2.1, (h2.1 j hj).trans (h.1 j hj).2.2.1, (h3.1 j hj).trans (h.1 j hj).2.2.2⟩, h0.2, h1.2, h2.2, h3.2⟩
theorem fu_0 {f : Nat → Int32} {t : Nat} {A : Int32} (e : f t = A) : (∀ j, j ≠ t → f j = f j) ∧ f t = A := ⟨fun _ _ => rfl, e⟩
theorem fu_1 {f : Nat → Int32} {t : Nat} {v : Int32} : (∀ j, j ≠ t → (upd f t v) j = f j) ∧ (upd f t v) t = v := ⟨fun _ h => upd_ne h, upd_at _ _ _⟩
theorem fu_2 {f : Nat → Int32} {t : Nat} {u v : Int32} : (∀ j, j ≠ t → (upd (upd f t u) t v) j = f j) ∧ (upd (upd f t u) t v) t = v := ⟨fun _ h => (upd_ne h).trans (upd_ne h), upd_at _ _ _⟩
def lnB (B N : Int32) : Int32 := if -N < B then (if B ≤ 0 then B else if B - N ≤ 0 then B - N else 0) else (if -N < B + N then B + N else 1 - N)
def lnC (B C N : Int32) : Int32 := if -N < B then (if B ≤ 0 then C else if 127 ≤ C then 127 else C + 1) else (if C ≤ -128 then -128 else C - 1)
theorem pu_corr {g : Nat → Int32} {x x' : Nat → Nat → Int32} {q : Int32} {A B C N : Int32} (h : XU x x' q.toNatClampNeg A B C N) (h0 : 1 ≤ q.toInt) (h1 : q.toInt ≤ 366)
    (hN : 1 ≤ N.toInt ∧ N.toInt ≤ 256) (hC : -128 ≤ C.toInt ∧ C.toInt ≤ 127) : XU x (f_correct g x' q) q.toNatClampNeg A (lnB B N) (lnC B C N) N := by
  obtain ⟨hj, hA, hB, hC', hN'⟩ := id h
  unfold f_correct f_correct_2
  rw [pu_has h0 h1, if_neg (by decide), hB, hC', hN']
  unfold lnB lnC
  have m128 : (-128 : Int32).toInt = -128 := by decide
  have m127 : (127 : Int32).toInt = 127 := by decide
  have nN : (-N).toInt = -N.toInt := ti_neg (by omega)
  have c1 : (1 - N).toInt = 1 - N.toInt := by rw [ti_sub (by rw [ti_1]; omega) (by rw [ti_1]; omega), ti_1]
  by_cases c : -N < B
  · rw [if_pos c, if_pos c, if_pos c]
    by_cases d : B ≤ 0
    · rw [if_pos d, if_pos d, if_pos d]; exact h
    · rw [if_neg d, if_neg d, if_neg d]
      refine XU.mk h (fu_0 hA) ⟨fun j hj => upd_ne hj, ?_⟩ ⟨fun j hj => upd_ne hj, ?_⟩ (fu_0 hN')
      · rw [upd_at]; unfold jmin; simp only [pu_lt, pu_le, ti_0]
        by_cases k : (B - N).toInt ≤ 0
        · rw [if_pos k]
          by_cases k' : 0 < (B - N).toInt
          · omega
          · rw [if_neg k']
        · rw [if_neg k, if_pos (by omega)]
      · rw [upd_at]; unfold jmin; simp only [pu_lt, pu_le, m127]
        have e : (C + 1).toInt = C.toInt + 1 := by rw [ti_add (by rw [ti_1]; omega) (by rw [ti_1]; omega), ti_1]
        rw [e]
        by_cases k : 127 ≤ C.toInt
        · rw [if_pos (by omega), if_pos k]
        · rw [if_neg (by omega), if_neg k]
  · rw [if_neg c, if_neg c, if_neg c]
    refine XU.mk h (fu_0 hA) ⟨fun j hj => upd_ne hj, ?_⟩ ⟨fun j hj => upd_ne hj, ?_⟩ (fu_0 hN')
    · rw [upd_at]; unfold jmax; simp only [pu_lt, nN, c1]
      by_cases k : -N.toInt < (B + N).toInt
      · rw [if_pos k, if_neg (by omega)]
      · rw [if_neg k, if_pos (by omega)]
    · rw [upd_at]; unfold jmax; simp only [pu_lt, pu_le, m128]
      have e : (C - 1).toInt = C.toInt - 1 := by rw [ti_sub (by rw [ti_1]; omega) (by rw [ti_1]; omega), ti_1]
      rw [e]
      by_cases k : C.toInt ≤ -128
      · rw [if_pos (by omega), if_pos k]
      · rw [if_neg (by omega), if_neg k]
theorem pu_l3 {pm : Nat → Int32} {ym yo Y : Nat → Nat → Int32} {v w q r : Int32} {A B C N : Int32} (h : YU yo Y v.toNatClampNeg A B C N) (hr : r = 0) :
    YU yo (f_m_learn_3 pm ym v w q Y r) v.toNatClampNeg A (lnB B (N + 1)) (lnC B C (N + 1)) (N + 1) := by
  obtain ⟨hk, hj, hA, hB, hC, hN⟩ := id h
  subst hr
  unfold f_m_learn_3 lnB lnC
  simp only [if_true, upd_at, hN, hB, hC]
  repeat' split
  all_goals first
    | (exfalso; contradiction)
    | exact YU.mk h (fu_0 hA) fu_1 (fu_0 hB) (fu_0 hC)
    | exact YU.mk h (fu_0 hA) fu_1 fu_2 fu_1
theorem pu_l3e {pm : Nat → Int32} {ym yo Y : Nat → Nat → Int32} {v w q r : Int32} {A B C N : Int32} (h : YU yo Y v.toNatClampNeg A B C N) (hr : ¬ r = 0) :
    YU yo (f_m_learn_3 pm ym v w q Y r) v.toNatClampNeg A B C (N + 1) := by
  obtain ⟨hk, hj, hA, hB, hC, hN⟩ := id h
  unfold f_m_learn_3
  simp only [if_neg hr, hN]
  exact YU.mk h (fu_0 hA) fu_1 (fu_0 hB) (fu_0 hC)
theorem XU.re {x y : Nat → Nat → Int32} {t : Nat} {A B C N : Int32} (h : XU x y t A B C N) : XU x (mkx (y 0) (y 1) (y 2) (y 3)) t A B C N := h
def lnA1 (er lk A e w : Int32) : Int32 := if er = 0 then A + f_m_size e else if lk = 1 then A + w / 2 else A + (w + 1) / 2
def lnB1 (st er B e : Int32) : Int32 := if er = 0 then B + e * st else if 0 ≤ e then B + 0 else B + 1
def lnA2 (hv N A1 : Int32) : Int32 := if N = hv then A1 / 2 else A1
def lnN2 (hv N : Int32) : Int32 := if N = hv then N / 2 else N
def lnB2 (hv er N B1 : Int32) : Int32 := if N = hv then (if er = 0 then (if B1 < 0 then -((1 - B1) / 2) else B1 / 2) else B1 / 2) else B1
def lnA (hv er lk A N e w : Int32) : Int32 := lnA2 hv N (lnA1 er lk A e w)
def lnN (hv N : Int32) : Int32 := lnN2 hv N + 1
def lnBf (st hv er B N e : Int32) : Int32 := if er = 0 then lnB (lnB2 hv er N (lnB1 st er B e)) (lnN hv N) else lnB2 hv er N (lnB1 st er B e)
def lnCf (st hv er B C N e : Int32) : Int32 := if er = 0 then lnC (lnB2 hv er N (lnB1 st er B e)) C (lnN hv N) else C
theorem lnN_b {hv N : Int32} (h : 1 ≤ N.toInt ∧ N.toInt ≤ hv.toInt) (hh : 3 ≤ hv.toInt ∧ hv.toInt ≤ 255) : 1 ≤ (lnN hv N).toInt ∧ (lnN hv N).toInt ≤ hv.toInt := by
  unfold lnN lnN2
  by_cases c : N = hv
  · rw [if_pos c]
    have e : (N / 2).toInt = N.toInt / 2 := by rw [ti_div (by omega) (by rw [ti_2]; omega), ti_2]
    have e' : (N / 2 + 1).toInt = N.toInt / 2 + 1 := by rw [ti_add (by rw [ti_1, e]; omega) (by rw [ti_1, e]; omega), ti_1, e]
    rw [e']; omega
  · rw [if_neg c]
    rw [pu_eq] at c
    have e' : (N + 1).toInt = N.toInt + 1 := by rw [ti_add (by rw [ti_1]; omega) (by rw [ti_1]; omega), ti_1]
    rw [e']; omega
theorem lnC_b {B C N : Int32} (h : -128 ≤ C.toInt ∧ C.toInt ≤ 127) : -128 ≤ (lnC B C N).toInt ∧ (lnC B C N).toInt ≤ 127 := by
  have m128 : (-128 : Int32).toInt = -128 := by decide
  have m127 : (127 : Int32).toInt = 127 := by decide
  have e : (C - 1).toInt = C.toInt - 1 := by rw [ti_sub (by rw [ti_1]; omega) (by rw [ti_1]; omega), ti_1]
  have e' : (C + 1).toInt = C.toInt + 1 := by rw [ti_add (by rw [ti_1]; omega) (by rw [ti_1]; omega), ti_1]
  unfold lnC
  simp only [pu_le, m128, m127]
  split
  · split
    · exact h
    · split
      · rw [m127]; omega
      · rw [e']; omega
  · split
    · rw [m128]; omega
    · rw [e]; omega
theorem lnCf_b {st hv er B C N e : Int32} (h : -128 ≤ C.toInt ∧ C.toInt ≤ 127) : -128 ≤ (lnCf st hv er B C N e).toInt ∧ (lnCf st hv er B C N e).toInt ≤ 127 := by
  unfold lnCf; split
  · exact lnC_b h
  · exact h
theorem pu_half {w : Int32} (h : -1 ≤ w.toInt ∧ w.toInt ≤ 131702) : 0 ≤ (w / 2).toInt ∧ (w / 2).toInt ≤ 65851 := by
  by_cases c : w = -1
  · subst c; decide
  · have c' : w.toInt ≠ -1 := fun h => c (pu_eq.2 (by rw [h]; decide))
    rw [ti_div (by omega) (by rw [ti_2]; omega), ti_2]; omega
theorem lnA_b {hv er lk A N e w : Int32} {M : Int} (hA : 0 ≤ A.toInt ∧ A.toInt ≤ M) (hM : M ≤ 400000000) (he : -65800 ≤ e.toInt ∧ e.toInt ≤ 65800) (hw : -1 ≤ w.toInt ∧ w.toInt ≤ 131700) : 0 ≤ (lnA hv er lk A N e w).toInt ∧ (lnA hv er lk A N e w).toInt ≤ M + 65900 := by
  have key : 0 ≤ (lnA1 er lk A e w).toInt ∧ (lnA1 er lk A e w).toInt ≤ M + 65900 := by
    unfold lnA1
    split
    · have hs := pu_sizei (v := e) (by omega)
      have hs' : 0 ≤ (f_m_size e).toInt ∧ (f_m_size e).toInt ≤ 65800 := by rw [hs]; split <;> omega
      rw [ti_add (by omega) (by omega)]; omega
    · split
      · have := pu_half (w := w) (by omega)
        rw [ti_add (by omega) (by omega)]; omega
      · have e1 : (w + 1).toInt = w.toInt + 1 := by rw [ti_add (by rw [ti_1]; omega) (by rw [ti_1]; omega), ti_1]
        have := pu_half (w := w + 1) (by omega)
        rw [ti_add (by omega) (by omega)]; omega
  unfold lnA lnA2
  split
  · rw [ti_div (by omega) (by rw [ti_2]; omega), ti_2]; omega
  · exact key
theorem pu_learn {g pm : Nat → Int32} {x : Nat → Nat → Int32} {q e w : Int32} (e2 : g 2 = pm 4) (e7 : g 7 = pm 9) (h0 : 1 ≤ q.toInt) (h1 : q.toInt ≤ 366)
    (hN : 1 ≤ (lnN (pm 9) (x 3 q.toNatClampNeg)).toInt ∧ (lnN (pm 9) (x 3 q.toNatClampNeg)).toInt ≤ 256) (hC : -128 ≤ (x 2 q.toNatClampNeg).toInt ∧ (x 2 q.toNatClampNeg).toInt ≤ 127) :
    XU x (f_learn g x q e w) q.toNatClampNeg (lnA (pm 9) (f_endsRun q) (f_likeness q) (x 0 q.toNatClampNeg) (x 3 q.toNatClampNeg) e w)
      (lnBf (pm 4) (pm 9) (f_endsRun q) (x 1 q.toNatClampNeg) (x 3 q.toNatClampNeg) e) (lnCf (pm 4) (pm 9) (f_endsRun q) (x 1 q.toNatClampNeg) (x 2 q.toNatClampNeg) (x 3 q.toNatClampNeg) e) (lnN (pm 9) (x 3 q.toNatClampNeg)) := by
  have hid := XU.id x q.toNatClampNeg
  unfold f_learn f_learn_2
  rw [pu_has h0 h1, if_neg (by decide)]
  unfold f_learn_5
  by_cases ce : f_endsRun q = 0
  · rw [if_pos ce]
    simp only [e2, e7, upd_at, pu_size]
    by_cases cN : x 3 q.toNatClampNeg = pm 9
    · rw [if_pos cN]
      have eN : lnN (pm 9) (x 3 q.toNatClampNeg) = x 3 q.toNatClampNeg / 2 + 1 := by unfold lnN lnN2; rw [if_pos cN]
      rw [eN] at hN
      have eA : lnA (pm 9) (f_endsRun q) (f_likeness q) (x 0 q.toNatClampNeg) (x 3 q.toNatClampNeg) e w = (x 0 q.toNatClampNeg + f_m_size e) / 2 := by
        unfold lnA lnA2 lnA1; rw [if_pos cN, if_pos ce]
      have eB1 : lnB1 (pm 4) (f_endsRun q) (x 1 q.toNatClampNeg) e = x 1 q.toNatClampNeg + e * pm 4 := by unfold lnB1; rw [if_pos ce]
      unfold lnBf lnCf
      rw [if_pos ce, if_pos ce, eA, eB1, eN]
      by_cases cB : 0 ≤ x 1 q.toNatClampNeg + e * pm 4
      · rw [if_pos cB]
        have cB' : ¬ x 1 q.toNatClampNeg + e * pm 4 < 0 := by rw [pu_le] at cB; rw [pu_lt]; omega
        have eB : lnB2 (pm 9) (f_endsRun q) (x 3 q.toNatClampNeg) (x 1 q.toNatClampNeg + e * pm 4) = (x 1 q.toNatClampNeg + e * pm 4) / 2 := by unfold lnB2; rw [if_pos cN, if_pos ce, if_neg cB']
        rw [eB]
        exact XU.re (pu_corr (XU.mk hid fu_2 fu_2 (fu_0 rfl) fu_2) h0 h1 hN hC)
      · rw [if_neg cB]
        have cB' : x 1 q.toNatClampNeg + e * pm 4 < 0 := by rw [pu_le] at cB; rw [pu_lt]; omega
        have eB : lnB2 (pm 9) (f_endsRun q) (x 3 q.toNatClampNeg) (x 1 q.toNatClampNeg + e * pm 4) = -((1 - (x 1 q.toNatClampNeg + e * pm 4)) / 2) := by unfold lnB2; rw [if_pos cN, if_pos ce, if_pos cB']
        rw [eB]
        exact XU.re (pu_corr (XU.mk hid fu_2 fu_2 (fu_0 rfl) fu_2) h0 h1 hN hC)
    · rw [if_neg cN]
      have eN : lnN (pm 9) (x 3 q.toNatClampNeg) = x 3 q.toNatClampNeg + 1 := by unfold lnN lnN2; rw [if_neg cN]
      rw [eN] at hN
      have eA : lnA (pm 9) (f_endsRun q) (f_likeness q) (x 0 q.toNatClampNeg) (x 3 q.toNatClampNeg) e w = (x 0 q.toNatClampNeg + f_m_size e) := by
        unfold lnA lnA2 lnA1; rw [if_neg cN, if_pos ce]
      have eB1 : lnB1 (pm 4) (f_endsRun q) (x 1 q.toNatClampNeg) e = x 1 q.toNatClampNeg + e * pm 4 := by unfold lnB1; rw [if_pos ce]
      have eB : lnB2 (pm 9) (f_endsRun q) (x 3 q.toNatClampNeg) (x 1 q.toNatClampNeg + e * pm 4) = (x 1 q.toNatClampNeg + e * pm 4) := by unfold lnB2; rw [if_neg cN]
      unfold lnBf lnCf
      rw [if_pos ce, if_pos ce, eA, eB1, eN, eB]
      exact XU.re (pu_corr (XU.mk hid fu_1 fu_1 (fu_0 rfl) fu_1) h0 h1 hN hC)
  · rw [if_neg ce]
    unfold f_learnEnd f_learnEnd_2
    rw [pu_has h0 h1, if_neg (by decide)]
    unfold lnBf lnCf
    rw [if_neg ce, if_neg ce]
    have hlk : f_likeness q = 1 ∨ f_likeness q = 0 := by unfold f_likeness; split; exact Or.inl rfl; exact Or.inr rfl
    have ew : (w + 1 - f_likeness q) / 2 = if f_likeness q = 1 then w / 2 else (w + 1) / 2 := by
      rcases hlk with h | h
      · rw [h, if_pos rfl, Int32.add_sub_cancel]
      · rw [h, if_neg (by decide), Int32.sub_zero]
    have eA1 : lnA1 (f_endsRun q) (f_likeness q) (x 0 q.toNatClampNeg) e w = x 0 q.toNatClampNeg + (w + 1 - f_likeness q) / 2 := by
      rw [ew]; unfold lnA1; rw [if_neg ce]; split <;> rfl
    unfold lnA lnN
    rw [eA1]
    unfold lnA2 lnN2 lnB2 lnB1 f_learn_16
    rw [if_neg ce, if_neg ce]
    by_cases c0 : 0 ≤ e
    · rw [if_pos c0, if_pos c0]
      unfold f_learnEnd_6
      simp only [e7, upd_at, Int32.add_zero]
      by_cases cN : x 3 q.toNatClampNeg = pm 9
      · simp only [if_pos cN]
        exact XU.re (XU.mk hid fu_2 fu_1 (fu_0 rfl) fu_2)
      · simp only [if_neg cN]
        exact XU.re (XU.mk hid fu_1 (fu_0 rfl) (fu_0 rfl) fu_1)
    · rw [if_neg c0, if_neg c0]
      unfold f_learnEnd_9
      simp only [e7, upd_at]
      by_cases cN : x 3 q.toNatClampNeg = pm 9
      · simp only [if_pos cN]
        exact XU.re (XU.mk hid fu_2 fu_2 (fu_0 rfl) fu_2)
      · simp only [if_neg cN]
        exact XU.re (XU.mk hid fu_1 fu_1 (fu_0 rfl) fu_1)
theorem YU.re {x y : Nat → Nat → Int32} {t : Nat} {A B C N : Int32} (h : YU x y t A B C N) : YU x (mky (y 0) (y 1) (y 2) (y 3) (y 4) (y 5) (y 6) (y 7) (y 8) (y 9) (y 10)) t A B C N := h
theorem pu_j1 {pm : Nat → Int32} {ym yo Y : Nat → Nat → Int32} {s : Nat} {q e w : Int32} {A B C N : Int32} (hs : s = 0 ∨ s = 1) (h0 : 1 ≤ q.toInt) (h1 : q.toInt ≤ 366) (h : YU yo Y (pu_at s q).toNatClampNeg A B C N) :
    YU yo (f_m_learn_j1 pm ym (pu_at s q) e w Y) (pu_at s q).toNatClampNeg A (if f_endsRun q = 0 then lnB B (N + 1) else B) (if f_endsRun q = 0 then lnC B C (N + 1) else C) (N + 1) := by
  unfold f_m_learn_j1
  rw [pu_end hs h0 h1]
  by_cases c : f_endsRun q = 0
  · rw [if_pos c, if_pos c]; exact pu_l3 h c
  · rw [if_neg c, if_neg c]; exact pu_l3e h c
theorem pu_j13 {pm : Nat → Int32} {ym yo Y : Nat → Nat → Int32} {s : Nat} {q e w : Int32} {A B C N : Int32} (hs : s = 0 ∨ s = 1) (h0 : 1 ≤ q.toInt) (h1 : q.toInt ≤ 366) (h : YU yo Y (pu_at s q).toNatClampNeg A B C N) :
    YU yo (f_m_learn_j13 pm ym (pu_at s q) e w Y) (pu_at s q).toNatClampNeg (lnA2 (pm 9) N A) (if f_endsRun q = 0 then lnB (lnB2 (pm 9) (f_endsRun q) N B) (lnN (pm 9) N) else (lnB2 (pm 9) (f_endsRun q) N B)) (if f_endsRun q = 0 then lnC (lnB2 (pm 9) (f_endsRun q) N B) C (lnN (pm 9) N) else C) (lnN (pm 9) N) := by
  obtain ⟨hk, hj, hA, hB, hC, hN⟩ := id h
  unfold f_m_learn_j13
  rw [hN]
  unfold lnN lnA2 lnN2
  by_cases c : N = pm 9
  · rw [if_pos c, if_pos c, if_pos c]
    unfold f_m_learn_16
    apply pu_j1 hs h0 h1
    unfold f_m_halve f_m_halve_2
    rw [pu_end hs h0 h1]
    unfold lnB2
    rw [if_pos c, hA, hB, hN]
    by_cases ce : f_endsRun q = 0
    · rw [if_pos ce, if_pos ce]
      by_cases cb : B < 0
      · rw [if_pos cb, if_pos cb]
        exact YU.re (YU.mk h fu_1 fu_1 fu_1 (fu_0 hC))
      · rw [if_neg cb, if_neg cb]
        exact YU.re (YU.mk h fu_1 fu_1 fu_1 (fu_0 hC))
    · rw [if_neg ce, if_neg ce]
      exact YU.re (YU.mk h fu_1 fu_1 fu_1 (fu_0 hC))
  · rw [if_neg c, if_neg c, if_neg c]
    have eB : lnB2 (pm 9) (f_endsRun q) N B = B := by unfold lnB2; rw [if_neg c]
    rw [eB]
    exact pu_j1 hs h0 h1 (YU.re h)
theorem pu_mlearn {pm : Nat → Int32} {ym : Nat → Nat → Int32} {s : Nat} {q e w : Int32} (hs : s = 0 ∨ s = 1) (h0 : 1 ≤ q.toInt) (h1 : q.toInt ≤ 366) {A B C N : Int32}
    (hA : ym 6 (pu_at s q).toNatClampNeg = A) (hB : ym 8 (pu_at s q).toNatClampNeg = B) (hC : ym 9 (pu_at s q).toNatClampNeg = C) (hN : ym 7 (pu_at s q).toNatClampNeg = N) :
    YU ym (f_m_learn pm ym (pu_at s q) e w) (pu_at s q).toNatClampNeg (lnA (pm 9) (f_endsRun q) (f_likeness q) A N e w)
      (lnBf (pm 4) (pm 9) (f_endsRun q) B N e) (lnCf (pm 4) (pm 9) (f_endsRun q) B C N e) (lnN (pm 9) N) := by
  have hid := YU.id ym (pu_at s q).toNatClampNeg
  unfold f_m_learn f_m_learn_18
  rw [pu_end hs h0 h1, pu_kind hs h0 h1, pu_kind hs h0 h1]
  unfold lnA lnBf lnCf lnA1 lnB1
  by_cases ce : f_endsRun q = 0
  · simp only [if_pos ce]
    unfold f_m_learn_21
    have := pu_j13 (pm := pm) (ym := ym) (e := e) (w := w) hs h0 h1 (YU.mk hid (fu_1 (v := ym 6 (pu_at s q).toNatClampNeg + f_m_size e)) (fu_0 rfl) (fu_1 (v := ym 8 (pu_at s q).toNatClampNeg + e * pm 4)) (fu_0 rfl))
    simp only [if_pos ce, hA, hB, hC, hN] at this
    simp only [hA, hB]
    exact this
  · simp only [if_neg ce]
    by_cases c0 : 0 ≤ e
    · simp only [if_pos c0]
      unfold f_m_learn_24
      by_cases cl : f_likeness q = 1
      · simp only [if_pos cl]
        have := pu_j13 (pm := pm) (ym := ym) (e := e) (w := w) hs h0 h1 (YU.mk hid (fu_1 (v := ym 6 (pu_at s q).toNatClampNeg + w / 2)) (fu_0 rfl) (fu_1 (v := ym 8 (pu_at s q).toNatClampNeg + 0)) (fu_0 rfl))
        simp only [if_neg ce, hA, hB, hC, hN] at this
        simp only [hA, hB]
        exact this
      · simp only [if_neg cl]
        have := pu_j13 (pm := pm) (ym := ym) (e := e) (w := w) hs h0 h1 (YU.mk hid (fu_1 (v := ym 6 (pu_at s q).toNatClampNeg + (w + 1) / 2)) (fu_0 rfl) (fu_1 (v := ym 8 (pu_at s q).toNatClampNeg + 0)) (fu_0 rfl))
        simp only [if_neg ce, hA, hB, hC, hN] at this
        simp only [hA, hB]
        exact this
    · simp only [if_neg c0]
      unfold f_m_learn_27
      by_cases cl : f_likeness q = 1
      · simp only [if_pos cl]
        have := pu_j13 (pm := pm) (ym := ym) (e := e) (w := w) hs h0 h1 (YU.mk hid (fu_1 (v := ym 6 (pu_at s q).toNatClampNeg + w / 2)) (fu_0 rfl) (fu_1 (v := ym 8 (pu_at s q).toNatClampNeg + 1)) (fu_0 rfl))
        simp only [if_neg ce, hA, hB, hC, hN] at this
        simp only [hA, hB]
        exact this
      · simp only [if_neg cl]
        have := pu_j13 (pm := pm) (ym := ym) (e := e) (w := w) hs h0 h1 (YU.mk hid (fu_1 (v := ym 6 (pu_at s q).toNatClampNeg + (w + 1) / 2)) (fu_0 rfl) (fu_1 (v := ym 8 (pu_at s q).toNatClampNeg + 1)) (fu_0 rfl))
        simp only [if_neg ce, hA, hB, hC, hN] at this
        simp only [hA, hB]
        exact this
def RK (hv : Int32) (M : Int) (ym : Nat → Nat → Int32) : Prop := ∀ j : Nat, j < 734 → 1 ≤ (ym 7 j).toInt ∧ (ym 7 j).toInt ≤ hv.toInt ∧ 0 ≤ (ym 6 j).toInt ∧ (ym 6 j).toInt ≤ M ∧ -128 ≤ (ym 9 j).toInt ∧ (ym 9 j).toInt ≤ 127
theorem RK.inv {hv : Int32} {M : Int} {ym : Nat → Nat → Int32} (h : RK hv M ym) (hh : hv.toInt ≤ 255) (hM : M ≤ 400000000) : vm_inv ym := fun j hj => by
  obtain ⟨h1, h2, h3, h4, _, _⟩ := h j hj
  exact ⟨by omega, by omega, by omega, by omega⟩
theorem RK.up {hv : Int32} {M M' : Int} {ym : Nat → Nat → Int32} (h : RK hv M ym) (hM : M ≤ M') : RK hv M' ym := fun j hj => by
  obtain ⟨h1, h2, h3, h4, h5, h6⟩ := h j hj
  exact ⟨h1, h2, h3, by omega, h5, h6⟩
theorem pu_LN {g pm : Nat → Int32} {x ym : Nat → Nat → Int32} {s : Nat} {q e w : Int32} {M : Int} (e2 : g 2 = pm 4) (e7 : g 7 = pm 9) (hs : s = 0 ∨ s = 1) (h0 : 1 ≤ q.toInt) (h1 : q.toInt ≤ 366)
    (hC : RC s x ym) (hK : RK (pm 9) M ym) (hM : M ≤ 400000000) (hh : 3 ≤ (pm 9).toInt ∧ (pm 9).toInt ≤ 255) (he : -65800 ≤ e.toInt ∧ e.toInt ≤ 65800) (hw : -1 ≤ w.toInt ∧ w.toInt ≤ 131700) :
    RK (pm 9) (M + 65900) (f_m_learn pm ym (pu_at s q) e w) ∧ RC s (f_learn g x q e w) (f_m_learn pm ym (pu_at s q) e w) ∧
    (∀ (s' : Nat) (x' : Nat → Nat → Int32), s' ≠ s → s' ≤ 1 → RC s' x' ym → RC s' x' (f_m_learn pm ym (pu_at s q) e w)) ∧ vm_ky ym (f_m_learn pm ym (pu_at s q) e w) := by
  obtain ⟨c0, c1, c2, c3⟩ := pu_rc hC hs h0 h1
  have hat := pu_atn hs h0 h1
  have hq : q.toNatClampNeg < 367 ∧ 1 ≤ q.toNatClampNeg := by
    have : q.toNatClampNeg = q.toInt.toNat := rfl
    omega
  have hat7 : (pu_at s q).toNatClampNeg < 734 := by rw [hat]; omega
  obtain ⟨k1, k2, k3, k4, k5, k6⟩ := hK _ hat7
  have hY := pu_mlearn (pm := pm) (ym := ym) (e := e) (w := w) hs h0 h1 c0.symm c1.symm c2.symm c3.symm
  have hN := lnN_b (hv := pm 9) (N := x 3 q.toNatClampNeg) (by rw [c3]; exact ⟨k1, k2⟩) hh
  have hX := pu_learn (g := g) (pm := pm) (x := x) (e := e) (w := w) e2 e7 h0 h1 (by omega) (by rw [c2]; exact ⟨k5, k6⟩)
  obtain ⟨hky, hyj, hyA, hyB, hyC, hyN⟩ := hY
  obtain ⟨hxj, hxA, hxB, hxC, hxN⟩ := hX
  refine ⟨?_, ?_, ?_, hky⟩
  · intro j hj
    by_cases c : j = (pu_at s q).toNatClampNeg
    · subst c
      rw [hyA, hyC, hyN]
      have hA := lnA_b (hv := pm 9) (er := f_endsRun q) (lk := f_likeness q) (A := x 0 q.toNatClampNeg) (N := x 3 q.toNatClampNeg) (e := e) (w := w) (M := M) (by rw [c0]; exact ⟨k3, k4⟩) hM he hw
      have hc := lnCf_b (st := pm 4) (hv := pm 9) (er := f_endsRun q) (B := x 1 q.toNatClampNeg) (C := x 2 q.toNatClampNeg) (N := x 3 q.toNatClampNeg) (e := e) (by rw [c2]; exact ⟨k5, k6⟩)
      exact ⟨hN.1, hN.2, hA.1, hA.2, hc.1, hc.2⟩
    · obtain ⟨y6, y7, y8, y9⟩ := hyj j c
      rw [y6, y7, y9]
      obtain ⟨k1, k2, k3, k4, k5, k6⟩ := hK _ hj
      exact ⟨k1, k2, k3, by omega, k5, k6⟩
  · intro j hj
    by_cases c : j = q.toNatClampNeg
    · subst c
      rw [← hat, hyA, hyB, hyC, hyN]
      exact ⟨hxA, hxB, hxC, hxN⟩
    · obtain ⟨x0, x1, x2, x3⟩ := hxj j c
      obtain ⟨y6, y7, y8, y9⟩ := hyj (367 * s + j) (by rw [hat]; omega)
      rw [x0, x1, x2, x3, y6, y7, y8, y9]
      exact hC j hj
  · intro s' x' hne hs' hC' j hj
    obtain ⟨y6, y7, y8, y9⟩ := hyj (367 * s' + j) (by rw [hat]; omega)
    rw [y6, y7, y8, y9]
    exact hC' j hj
