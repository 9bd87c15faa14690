/-! words: of a call among a method's own -/
theorem vg_0 {big : List Cond} {w : Cond} (hb : ∀ w ∈ vU, w ∈ big) (h : w ∈ vU) : GoodIn big (w :: vU) := fun v hv => by
  rcases List.mem_cons.mp hv with e | hv
  · rw [e]; exact ⟨hb _ h, vU_good _ h⟩
  · exact ⟨hb _ hv, vU_good _ hv⟩
theorem vg_V {big : List Cond} {own C : String} {idx : Nat} {y : MethodName} {w : Cond} (hb : ∀ w ∈ vU, w ∈ big) (h1 : Cond.methodLink own idx y ∈ vU) (h2 : Cond.instanceMethod y ∈ vU) (h3 : Cond.selects C y y ∈ vU) (h4 : Cond.initialized C ∈ vU) (h : w ∈ vU) : GoodIn big (wsV own idx C y (w :: vU)) := fun v hv => by
  unfold wsV at hv
  rcases List.mem_append.mp hv with hv | hv
  · simp only [List.mem_cons, List.not_mem_nil, or_false] at hv
    rcases hv with e | e | e | e
    · rw [e]; exact ⟨hb _ h1, vU_good _ h1⟩
    · rw [e]; exact ⟨hb _ h2, vU_good _ h2⟩
    · rw [e]; exact ⟨hb _ h3, vU_good _ h3⟩
    · rw [e]; exact ⟨hb _ h4, vU_good _ h4⟩
  · exact vg_0 hb h v hv
theorem vg_S {big : List Cond} {own : String} {idx : Nat} {y : MethodName} {w : Cond} (hb : ∀ w ∈ vU, w ∈ big) (h1 : Cond.methodLink own idx y ∈ vU) (h2 : Cond.static y ∈ vU) (h4 : Cond.initialized y.cls ∈ vU) (h : w ∈ vU) : GoodIn big (va_wsS own idx y (w :: vU)) := fun v hv => by
  unfold va_wsS at hv
  rcases List.mem_append.mp hv with hv | hv
  · simp only [List.mem_cons, List.not_mem_nil, or_false] at hv
    rcases hv with e | e | e
    · rw [e]; exact ⟨hb _ h1, vU_good _ h1⟩
    · rw [e]; exact ⟨hb _ h2, vU_good _ h2⟩
    · rw [e]; exact ⟨hb _ h4, vU_good _ h4⟩
  · exact vg_0 hb h v hv
/-! My own rows: a contract's start and end over a list of cells, and a call with its join in one row. -/
/-- the words that no list of words may hold (links among nest mates, what a throw asks), and the texts -/
def vq_Ew : List Cond := [.castable "java/lang/IllegalArgumentException" "java/lang/IllegalArgumentException", .castable "java/lang/IllegalStateException" "java/lang/IllegalStateException", .castable "java/lang/IndexOutOfBoundsException" "java/lang/IndexOutOfBoundsException", .declares ⟨"java/lang/Exception", "<init>", "(Ljava/lang/String;)V"⟩, .declares ⟨"java/lang/RuntimeException", "<init>", "(Ljava/lang/String;)V"⟩, .declares ⟨"java/lang/Throwable", "<init>", "(Ljava/lang/String;)V"⟩, .methodLinkNest R_Lp 37 y_Ou_init R_Lp, .methodLinkNest R_Sc 31 y_Lp_divided R_Lp, .methodLinkNest R_Sc 7 y_Lp_within R_Lp]
def vq_E (sa : Nat → Nat) (U : State) : Prop := (∀ w ∈ vq_Ew, va_Nw w U) ∧ vk_R R_Lp 183 "there is no such neighbour" (sa 0) U ∧ vk_R R_Lp 186 "there is no such side" (sa 1) U ∧ vk_R R_Lp 193 "a context has no such number" (sa 2) U ∧ vk_R R_Lp 191 "there is no such context" (sa 3) U ∧ vk_R R_Lp 200 "no error is this number" (sa 4) U ∧ vk_R R_Lp 208 "there is no such setting" (sa 5) U ∧ vk_R R_Lp 55 "a sample was told" (sa 6) U ∧ vk_R R_Lp 86 "no sample is this number" (sa 7) U ∧ vk_R R_Lp 82 "it is not this sample's turn" (sa 8) U ∧ vk_R R_Lp 160 "no error folds to this number here" (sa 9) U ∧ vk_R R_Lp 155 "it is no sample of a run" (sa 10) U ∧ vk_R R_Lp 153 "nothing folds to this number" (sa 11) U
theorem vq_Ew_tab : ∀ w ∈ vq_Ew, w.onTables = true := by decide +kernel
theorem vq_Ew_warm {w : Cond} (h : w ∈ vq_Ew) {s U : State} (hW : s.WarmedH U.vm) (hZ : va_Nw w s) : va_Nw w U := by
  simp only [vq_Ew, List.mem_cons, List.not_mem_nil, or_false] at h
  rcases h with rfl | rfl | rfl | rfl | rfl | rfl | rfl | rfl | rfl <;> first | exact va_Nw.warmM hW hZ | exact va_Nw.warmC hW hZ | exact va_Nw.warmD hW hZ | exact va_Nw.warmF hW hZ
theorem vq_E.warm {sa : Nat → Nat} {s U : State} (hW : s.WarmedH U.vm) (h : vq_E sa s) : vq_E sa U := ⟨fun w hw => vq_Ew_warm hw hW (h.1 w hw), vk_R.warm hW (h.2.1), vk_R.warm hW (h.2.2.1), vk_R.warm hW (h.2.2.2.1), vk_R.warm hW (h.2.2.2.2.1), vk_R.warm hW (h.2.2.2.2.2.1), vk_R.warm hW (h.2.2.2.2.2.2.1), vk_R.warm hW (h.2.2.2.2.2.2.2.1), vk_R.warm hW (h.2.2.2.2.2.2.2.2.1), vk_R.warm hW (h.2.2.2.2.2.2.2.2.2.1), vk_R.warm hW (h.2.2.2.2.2.2.2.2.2.2.1), vk_R.warm hW (h.2.2.2.2.2.2.2.2.2.2.2.1), vk_R.warm hW (h.2.2.2.2.2.2.2.2.2.2.2.2)⟩
theorem vq_E.same {sa : Nat → Nat} {s U : State} (hv : U.vm = s.vm) (h : vq_E sa s) : vq_E sa U := ⟨fun w hw => va_Nw.same (vq_Ew_tab w hw) hv.symm (h.1 w hw), vk_R.same hv (h.2.1), vk_R.same hv (h.2.2.1), vk_R.same hv (h.2.2.2.1), vk_R.same hv (h.2.2.2.2.1), vk_R.same hv (h.2.2.2.2.2.1), vk_R.same hv (h.2.2.2.2.2.2.1), vk_R.same hv (h.2.2.2.2.2.2.2.1), vk_R.same hv (h.2.2.2.2.2.2.2.2.1), vk_R.same hv (h.2.2.2.2.2.2.2.2.2.1), vk_R.same hv (h.2.2.2.2.2.2.2.2.2.2.1), vk_R.same hv (h.2.2.2.2.2.2.2.2.2.2.2.1), vk_R.same hv (h.2.2.2.2.2.2.2.2.2.2.2.2)⟩
/-- a contract's start: the cells ws, apart, at a heap of sz cells -/
def vq_pre (D : va_G) (sa : Nat → Nat) (ws : va_W) (tys : List (ClassId × FieldType)) (sz : Nat) : State → Prop := fun U => U.heap.size = sz ∧ va_P D vwCl ws U.heap ∧ va_K D vwCl tys U ∧ va_D (fun _ => True) ws ∧ vq_E sa U
/-- a contract's world behind it -/
def vq_B {S : Type} (D : va_G) (A : Nat → Prop) (tys : List (ClassId × FieldType)) (w1 : S → va_W) : S → State → Prop := fun u t => va_P D vwCl (w1 u) t.heap ∧ va_K D vwCl tys t ∧ va_D A (w1 u)
/-- a contract's world behind a method that makes cells -/
def vq_Bn {S : Type} (D : va_G) (A : Nat → Prop) (tysf : S → List (ClassId × FieldType)) (w1 : S → va_W) : S → State → Prop := fun u t => va_P D vwCl (w1 u) t.heap ∧ va_K D vwCl (tysf u) t ∧ va_D A (w1 u)
theorem vq_blind {av : List Value} {D : va_G} {sa : Nat → Nat} {ws : va_W} {tys : List (ClassId × FieldType)} {sz : Nat} : FrameBlind (va_Pc av (vq_pre D sa ws tys sz)) :=
  fun a U g mk q => by
    obtain ⟨q0, q1, qP, qK, qD, qE⟩ := q
    exact ⟨q0, q1, qP, va_K.moved (u := U) (U := U.calling g mk a) (Vm.Alike.refl U.vm) qK, qD, vq_E.same (s := U) (U := U.calling g mk a) rfl qE⟩
theorem vq_fm {α β : Type} {f : α → Option β} : ∀ {is : List α} {w : List β}, is.map f = w.map some → is.filterMap f = w
  | [], [], _ => rfl
  | [], _ :: _, h => by simp at h
  | _ :: _, [], h => by simp at h
  | i :: is, x :: w, h => by
    simp only [List.map_cons, List.cons.injEq] at h
    rw [List.filterMap_cons, h.1]
    simp only [vq_fm h.2]
def vq_exc : Nat → String | 1 => "java/lang/IllegalStateException" | 2 => "java/lang/IllegalArgumentException" | _ => "java/lang/IndexOutOfBoundsException"
section VQ
variable {p : Program} {l : Launch} {e : Env} {R : Room} {s : State} {m : MethodId} {args : Array Value} {below : List Frame} {meth : Method} {c : Code} {H H0 : Heap} {locs : List Loc} {cells slots : Nat} {Q : State → Prop} {A : Nat → Prop} {D : va_G} {ws wc wr : va_W} {tys tyc : List (ClassId × FieldType)} {sa : Nat → Nat}
theorem vq_pS {As : List Value} (hE : vq_E sa s) (hK : va_K D vwCl tys s) (hP : va_P D vwCl ws H) (hD : va_D A ws) (isC tC : List Nat) (hC : isC.map (fun i => ws[i]?) = wc.map some) (hn : va_nd isC = true) (ht : tC.filterMap (fun i => tys[i]?) = tyc) :
    PreS s H (va_Pc As (vq_pre D sa wc tyc H.size)) As :=
  ⟨vq_blind, fun U hU hW => ⟨rfl, by rw [hU], by rw [hU]; exact hP.sub isC (vq_fm hC), va_K.moved hW.alike (hK.sub tC ht), (hD.sub isC hn hC).weaken (fun _ _ _ _ => trivial), hE.warm hW⟩⟩
theorem vq_pV {As : List Value} {b : Nat} {C : String} (hE : vq_E sa s) (hK : va_K D vwCl tys s) (hP : va_P D vwCl ws H) (hD : va_D A ws) (isC tC : List Nat) (hC : isC.map (fun i => ws[i]?) = wc.map some) (hn : va_nd isC = true) (ht : tC.filterMap (fun i => tys[i]?) = tyc)
    (ci q0 : Nat) {q : vw_C} {fs : List Value} (hc : vwCl[ci]? = some q) (he : ws[q0]? = some (b, .inr (ci, fs))) (hq : q.1 = C) :
    PreV s H C b (va_Pc (.ref b :: As) (vq_pre D sa wc tyc H.size)) As :=
  ⟨vq_blind, by rw [← hq]; exact va_recv hK hP hc he, fun U hU hW => ⟨rfl, by rw [hU], by rw [hU]; exact hP.sub isC (vq_fm hC), va_K.moved hW.alike (hK.sub tC ht), (hD.sub isC hn hC).weaken (fun _ _ _ _ => trivial), hE.warm hW⟩⟩
variable {mc ms pc : Nat} {ls : Array Slot} {st0 rest : List Value} {a : Array Value}
theorem vq_i {S : Type} {post : Int32 → S → Prop} {w1 : S → va_W} (hr : va_Run p l e R s m args below meth c H locs cells slots mc ms (F0 m pc ls st0) rest (va_Qi post (vq_B D (va_A wc H.size) tyc w1) (va_A wc H.size) a) (va_A wc H.size))
    (hP : va_P D vwCl ws H) (hD : va_D A ws) (hS : va_S A H0 H locs) (hA : ∀ q, H0.size ≤ q → A q) (isC isR : List Nat) (hC : isC.map (fun i => ws[i]?) = wc.map some) (hR : isR.map (fun i => ws[i]?) = wr.map some) (hn : va_nd isR = true) (hdis : ∀ i ∈ isR, i ∉ isC)
    (kk : ∀ (r : Int32) (u : S) (H1 : Heap) (locs1 : List Loc), post r u → va_P D vwCl (wr ++ w1 u) H1 → va_D A (wr ++ w1 u) → va_S A H0 H1 locs1 → W p l e R s m args below meth c H1 locs1 (cells + mc) (slots + ms) Q (F0 m (pc + 3) ls (.int r :: rest))) :
    W p l e R s m args below meth c H locs cells slots Q (F0 m pc ls st0) := by
  have hF := va_free (wc := wc) hD hS hA isC hC
  refine va_calli hr hS (fun q _ h => hF q h) hF (fun r u t H1 locs1 ht hvm hw hB hz1 hk1 hS1 => ?_)
  obtain ⟨hP1, hK1, hD1⟩ := hB
  rw [ht] at hP1
  obtain ⟨hP2, hD2⟩ := va_join (wr := wr) (w1 := w1 u) hP hD isC isR hC hR hn hdis hk1 hF hP1 hD1
  exact kk r u H1 locs1 hw hP2 hD2 hS1
theorem vq_v {S : Type} {post : S → Prop} {w1 : S → va_W} (hr : va_Run p l e R s m args below meth c H locs cells slots mc ms (F0 m pc ls st0) rest (va_Qv post (vq_B D (va_A wc H.size) tyc w1) (va_A wc H.size) a) (va_A wc H.size))
    (hP : va_P D vwCl ws H) (hD : va_D A ws) (hS : va_S A H0 H locs) (hA : ∀ q, H0.size ≤ q → A q) (isC isR : List Nat) (hC : isC.map (fun i => ws[i]?) = wc.map some) (hR : isR.map (fun i => ws[i]?) = wr.map some) (hn : va_nd isR = true) (hdis : ∀ i ∈ isR, i ∉ isC)
    (kk : ∀ (u : S) (H1 : Heap) (locs1 : List Loc), post u → va_P D vwCl (wr ++ w1 u) H1 → va_D A (wr ++ w1 u) → va_S A H0 H1 locs1 → W p l e R s m args below meth c H1 locs1 (cells + mc) (slots + ms) Q (F0 m (pc + 3) ls rest)) :
    W p l e R s m args below meth c H locs cells slots Q (F0 m pc ls st0) := by
  have hF := va_free (wc := wc) hD hS hA isC hC
  refine va_callv hr hS (fun q _ h => hF q h) hF (fun u t H1 locs1 ht hvm hw hB hz1 hk1 hS1 => ?_)
  obtain ⟨hP1, hK1, hD1⟩ := hB
  rw [ht] at hP1
  obtain ⟨hP2, hD2⟩ := va_join (wr := wr) (w1 := w1 u) hP hD isC isR hC hR hn hdis hk1 hF hP1 hD1
  exact kk u H1 locs1 hw hP2 hD2 hS1
theorem vq_vn {S : Type} {post : S → Prop} {tysf : S → List (ClassId × FieldType)} {w1 : S → va_W} (hr : va_Run p l e R s m args below meth c H locs cells slots mc ms (F0 m pc ls st0) rest (va_Qv post (vq_Bn D (va_A wc H.size) tysf w1) (va_A wc H.size) a) (va_A wc H.size))
    (hK : va_K D vwCl tys s) (hP : va_P D vwCl ws H) (hD : va_D A ws) (hS : va_S A H0 H locs) (hA : ∀ q, H0.size ≤ q → A q) (isC isR : List Nat) (hC : isC.map (fun i => ws[i]?) = wc.map some) (hR : isR.map (fun i => ws[i]?) = wr.map some) (hn : va_nd isR = true) (hdis : ∀ i ∈ isR, i ∉ isC)
    (kk : ∀ (u : S) (H1 : Heap) (locs1 : List Loc), post u → va_K D vwCl (tys ++ tysf u) s → va_P D vwCl (wr ++ w1 u) H1 → va_D A (wr ++ w1 u) → va_S A H0 H1 locs1 → W p l e R s m args below meth c H1 locs1 (cells + mc) (slots + ms) Q (F0 m (pc + 3) ls rest)) :
    W p l e R s m args below meth c H locs cells slots Q (F0 m pc ls st0) := by
  have hF := va_free (wc := wc) hD hS hA isC hC
  refine va_callv hr hS (fun q _ h => hF q h) hF (fun u t H1 locs1 ht hvm hw hB hz1 hk1 hS1 => ?_)
  obtain ⟨hP1, hK1, hD1⟩ := hB
  rw [ht] at hP1
  have hK1 := va_K.moved hvm.symm hK1
  obtain ⟨hP2, hD2⟩ := va_join (wr := wr) (w1 := w1 u) hP hD isC isR hC hR hn hdis hk1 hF hP1 hD1
  exact kk u H1 locs1 hw (hK.app hK1) hP2 hD2 hS1
end VQ
/-! numbers of the machine -/
def jmax (x y : Int32) : Int32 := if x < y then y else x
def jmin (x y : Int32) : Int32 := if y < x then y else x
def jabs (x : Int32) : Int32 := if 0 ≤ x then x else 0 - x
def mk2 (a b : Int32) : Nat → Int32 | 0 => a | _ => b
def mkn (a b c d : Nat) : Nat → Nat | 0 => a | 1 => b | 2 => c | _ => d
def mk6 (a b c d e f : Int32) : Nat → Int32 | 0 => a | 1 => b | 2 => c | 3 => d | 4 => e | _ => f
def mk8 (a b c d e f g h : Int32) : Nat → Int32 | 0 => a | 1 => b | 2 => c | 3 => d | 4 => e | 5 => f | 6 => g | _ => h
def mk9 (a b c d e f g h i : Int32) : Nat → Int32 | 0 => a | 1 => b | 2 => c | 3 => d | 4 => e | 5 => f | 6 => g | 7 => h | _ => i
def mkx (a b c d : Nat → Int32) : Nat → Nat → Int32 | 0 => a | 1 => b | 2 => c | _ => d
theorem vq_nz {x : Int32} (h : x = 0 ∨ x = 1) : narrow .boolean (.int x) = .int x := by rcases h with rfl | rfl <;> rfl
theorem vq_fz {x : Int32} (h : x = 0 ∨ x = 1) : fits .boolean (.int x) = true := by rcases h with rfl | rfl <;> rfl
theorem vq_in {i : Int32} {n : Nat} (hn : n < 2 ^ 31) (h0 : ¬ i < 0) (h1 : ¬ nI n ≤ i) : vp_in i n := by
  rw [vp_in_iff]
  rw [Int32.le_iff_toInt_le, nI_toInt hn] at h1
  rw [Int32.lt_iff_toInt_lt, Int32.toInt_zero] at h0
  omega
/-! what a cell holds -/
abbrev k_Sc (g : Nat → Int32) : va_E := .inr (1, [.int (g 0), .int (g 1), .int (g 2), .int (g 3), .int (g 4), .int (g 5), .int (g 6), .int (g 7)])
abbrev k_Ou (o : Nat → Int32) : va_E := .inr (3, [.int (o 0), .int (o 1), .int (o 2), .int (o 3), .int (o 4), .int (o 5), .int (o 6), .int (o 7), .int (o 8)])
abbrev k_Si (hc hg hr : Nat) (d : Nat → Int32) : va_E := .inr (2, [.ref hc, .ref hg, .int (d 0), .int (d 1), .int (d 2), .int (d 3), .ref hr, .int (d 4), .int (d 5)])
abbrev k_Co (hg : Nat) (ad : Nat → Nat) : va_E := .inr (4, [.ref hg, .ref (ad 0), .ref (ad 1), .ref (ad 2), .ref (ad 3)])
abbrev k_Lp (hg hs1 hs2 hl hsp : Nat) (z : Nat → Int32) : va_E := .inr (0, [.ref hg, .ref hs1, .ref hs2, .ref hl, .ref hsp, .int (z 0), .int (z 1)])
abbrev k0_Sc : va_E := .inr (1, [.int 0, .int 0, .int 0, .int 0, .int 0, .int 0, .int 0, .int 0])
abbrev k0_Ou : va_E := .inr (3, [.int 0, .int 0, .int 0, .int 0, .int 0, .int 0, .int 0, .int 0, .int 0])
abbrev k0_Si : va_E := .inr (2, [.null, .null, .int 0, .int 0, .int 0, .int 0, .null, .int 0, .int 0])
abbrev k0_Co : va_E := .inr (4, [.null, .null, .null, .null, .null])
abbrev k0_Lp : va_E := .inr (0, [.null, .null, .null, .null, .null, .int 0, .int 0])
theorem vq_out3 {x : Int32} (h0 : ¬ x = 0) (h1 : ¬ x = 1) (h2 : ¬ x = 2) : x.toInt < 0 ∨ 2 < x.toInt := by
  have a0 : ¬ x.toInt = 0 := fun h => h0 (Int32.toInt_inj.mp (h.trans (by decide)))
  have a1 : ¬ x.toInt = 1 := fun h => h1 (Int32.toInt_inj.mp (h.trans (by decide)))
  have a2 : ¬ x.toInt = 2 := fun h => h2 (Int32.toInt_inj.mp (h.trans (by decide)))
  omega
theorem vq_out5 {x : Int32} (h0 : ¬ x = 0) (h1 : ¬ x = 1) (h2 : ¬ x = 2) (h3 : ¬ x = 3) (h4 : ¬ x = 4) : x.toInt < 0 ∨ 4 < x.toInt := by
  have a0 : ¬ x.toInt = 0 := fun h => h0 (Int32.toInt_inj.mp (h.trans (by decide)))
  have a1 : ¬ x.toInt = 1 := fun h => h1 (Int32.toInt_inj.mp (h.trans (by decide)))
  have a2 : ¬ x.toInt = 2 := fun h => h2 (Int32.toInt_inj.mp (h.trans (by decide)))
  have a3 : ¬ x.toInt = 3 := fun h => h3 (Int32.toInt_inj.mp (h.trans (by decide)))
  have a4 : ¬ x.toInt = 4 := fun h => h4 (Int32.toInt_inj.mp (h.trans (by decide)))
  omega
theorem vq_out11 {x : Int32} (h0 : ¬ x = 0) (h1 : ¬ x = 1) (h2 : ¬ x = 2) (h3 : ¬ x = 3) (h4 : ¬ x = 4) (h5 : ¬ x = 5) (h6 : ¬ x = 6) (h7 : ¬ x = 7) (h8 : ¬ x = 8) (h9 : ¬ x = 9) (h10 : ¬ x = 10) : x.toInt < 0 ∨ 10 < x.toInt := by
  have a0 : ¬ x.toInt = 0 := fun h => h0 (Int32.toInt_inj.mp (h.trans (by decide)))
  have a1 : ¬ x.toInt = 1 := fun h => h1 (Int32.toInt_inj.mp (h.trans (by decide)))
  have a2 : ¬ x.toInt = 2 := fun h => h2 (Int32.toInt_inj.mp (h.trans (by decide)))
  have a3 : ¬ x.toInt = 3 := fun h => h3 (Int32.toInt_inj.mp (h.trans (by decide)))
  have a4 : ¬ x.toInt = 4 := fun h => h4 (Int32.toInt_inj.mp (h.trans (by decide)))
  have a5 : ¬ x.toInt = 5 := fun h => h5 (Int32.toInt_inj.mp (h.trans (by decide)))
  have a6 : ¬ x.toInt = 6 := fun h => h6 (Int32.toInt_inj.mp (h.trans (by decide)))
  have a7 : ¬ x.toInt = 7 := fun h => h7 (Int32.toInt_inj.mp (h.trans (by decide)))
  have a8 : ¬ x.toInt = 8 := fun h => h8 (Int32.toInt_inj.mp (h.trans (by decide)))
  have a9 : ¬ x.toInt = 9 := fun h => h9 (Int32.toInt_inj.mp (h.trans (by decide)))
  have a10 : ¬ x.toInt = 10 := fun h => h10 (Int32.toInt_inj.mp (h.trans (by decide)))
  omega
/-! a method's words -/
def w_Lp_within : List Cond := .code y_Lp_within b_Lp_within 3 (some .int) :: vU
def w_Lp_divided : List Cond := .code y_Lp_divided b_Lp_divided 2 (some .int) :: vU
def w_Sc_thresholdOr : List Cond := .code y_Sc_thresholdOr b_Sc_thresholdOr 3 (some .int) :: vU
def w_Sc_isFlat : List Cond := .code y_Sc_isFlat b_Sc_isFlat 2 (some .boolean) :: vU
def w_Sc_steepness : List Cond := .code y_Sc_steepness b_Sc_steepness 4 (some .int) :: vU
def w_Sc_inSteps : List Cond := .code y_Sc_inSteps b_Sc_inSteps 2 (some .int) :: vU
def w_Sc_inRange : List Cond := .code y_Sc_inRange b_Sc_inRange 3 (some .int) :: vU
def w_Sc_turnedOver : List Cond := .code y_Sc_turnedOver b_Sc_turnedOver 2 (some .int) :: vU
def w_Sc_asSample : List Cond := .code y_Sc_asSample b_Sc_asSample 2 (some .int) :: vU
def w_Sc_setFirstThresholds : List Cond := .code y_Sc_setFirstThresholds b_Sc_setFirstThresholds 5 none :: vU
def w_Co_has : List Cond := .code y_Co_has b_Co_has 1 (some .boolean) :: vU
def w_Co_endsRun : List Cond := .code y_Co_endsRun b_Co_endsRun 1 (some .boolean) :: vU
def w_Co_likeness : List Cond := .code y_Co_likeness b_Co_likeness 1 (some .int) :: vU
def w_Co_exponentIsZero : List Cond := .code y_Co_exponentIsZero b_Co_exponentIsZero 4 (some .boolean) :: vU
def w_Co_leansBelow : List Cond := .code y_Co_leansBelow b_Co_leansBelow 2 (some .boolean) :: vU
def w_Co_turnsAbove : List Cond := .code y_Co_turnsAbove b_Co_turnsAbove 2 (some .boolean) :: vU
def w_Co_turn : List Cond := .code y_Co_turn b_Co_turn 4 (some .int) :: vU
def w_Co_held : List Cond := .code y_Co_held b_Co_held 3 (some .int) :: vU
def w_Co_correction : List Cond := .code y_Co_correction b_Co_correction 2 (some .int) :: vU
def w_Co_fold : List Cond := .code y_Co_fold b_Co_fold 3 (some .int) :: vU
def w_Co_unfoldEnd : List Cond := .code y_Co_unfoldEnd b_Co_unfoldEnd 6 (some .int) :: vU
def w_Co_unfold : List Cond := .code y_Co_unfold b_Co_unfold 5 (some .int) :: vU
def w_Co_learnEnd : List Cond := .code y_Co_learnEnd b_Co_learnEnd 4 none :: vU
def w_Co_correct : List Cond := .code y_Co_correct b_Co_correct 3 none :: vU
def w_Co_learn : List Cond := .code y_Co_learn b_Co_learn 4 none :: vU
def w_Ou_expectRun : List Cond := .code y_Ou_expectRun b_Ou_expectRun 1 none :: vU
def w_Ou_median : List Cond := .code y_Ou_median b_Ou_median 1 (some .int) :: vU
def w_Ou_expectEnd : List Cond := .code y_Ou_expectEnd b_Ou_expectEnd 3 none :: vU
def w_Ou_moved : List Cond := .code y_Ou_moved b_Ou_moved 3 (some .int) :: vU
def w_Ou_expectByGradients : List Cond := .code y_Ou_expectByGradients b_Ou_expectByGradients 4 none :: vU
def w_Si_awaits : List Cond := .code y_Si_awaits b_Si_awaits 2 (some .boolean) :: vU
def w_Si_rowAt : List Cond := .code y_Si_rowAt b_Si_rowAt 2 (some .int) :: vU
def w_Si_goToNextRow : List Cond := .code y_Si_goToNextRow b_Si_goToNextRow 1 (some .boolean) :: vU
def w_Si_keep : List Cond := .code y_Si_keep b_Si_keep 3 none :: vU
def w_Si_isFlatAround : List Cond := .code y_Si_isFlatAround b_Si_isFlatAround 2 (some .boolean) :: vU
def w_Si_lookAhead : List Cond := .code y_Si_lookAhead b_Si_lookAhead 2 none :: vU
def w_Lp_tell : List Cond := .code y_Lp_tell b_Lp_tell 5 none :: vU
def w_Lp_endRow : List Cond := .code y_Lp_endRow b_Lp_endRow 3 (some .boolean) :: vU
def w_Lp_context : List Cond := .code y_Lp_context b_Lp_context 1 (some .int) :: vU
def w_Lp_predicted : List Cond := .code y_Lp_predicted b_Lp_predicted 1 (some .int) :: vU
def w_Lp_runs : List Cond := .code y_Lp_runs b_Lp_runs 1 (some .int) :: vU
def w_Lp_neighbour : List Cond := .code y_Lp_neighbour b_Lp_neighbour 2 (some .int) :: vU
def w_Lp_state : List Cond := .code y_Lp_state b_Lp_state 4 (some .int) :: vU
def w_Lp_quantised : List Cond := .code y_Lp_quantised b_Lp_quantised 2 (some .int) :: vU
def w_Lp_setting : List Cond := .code y_Lp_setting b_Lp_setting 2 (some .int) :: vU
def w_Lp_thresholds : List Cond := .code y_Lp_thresholds b_Lp_thresholds 4 (some .boolean) :: vU
def w_Lp_reset : List Cond := .code y_Lp_reset b_Lp_reset 2 (some .boolean) :: vU
def w_Lp_sample : List Cond := .code y_Lp_sample b_Lp_sample 7 (some .int) :: vU
def w_Lp_back : List Cond := .code y_Lp_back b_Lp_back 6 (some .int) :: vU
def w_Ou_init : List Cond := .code y_Ou_init b_Ou_init 1 none :: vU
def w_Sc_init : List Cond := .code y_Sc_init b_Sc_init 3 none :: vU
def w_Ar_fill : List Cond := .code y_Ar_fill b_Ar_fill 4 none :: vU
def w_Co_init : List Cond := .code y_Co_init b_Co_init 2 none :: vU
def w_Si_init : List Cond := .code y_Si_init b_Si_init 3 none :: vU
def w_Lp_init : List Cond := .code y_Lp_init b_Lp_init 5 none :: vU
