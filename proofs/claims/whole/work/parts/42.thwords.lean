/-! the words of the throws -/
def vt_w0 : List Cond := [Cond.classLink R_Lp 84 "java/lang/IllegalArgumentException", Cond.classLink R_Lp 53 "java/lang/IllegalStateException", Cond.classLink R_Lp 181 "java/lang/IndexOutOfBoundsException", Cond.initialized "java/lang/IllegalArgumentException", Cond.initialized "java/lang/IllegalStateException", Cond.initialized "java/lang/IndexOutOfBoundsException", Cond.stringRef R_Lp 55 "a sample was told", Cond.stringRef R_Lp 82 "it is not this sample's turn", Cond.stringRef R_Lp 86 "no sample is this number", Cond.stringRef R_Lp 153 "nothing folds to this number", Cond.stringRef R_Lp 155 "it is no sample of a run", Cond.stringRef R_Lp 160 "no error folds to this number here", Cond.stringRef R_Lp 200 "no error is this number", Cond.stringRef R_Lp 183 "there is no such neighbour", Cond.stringRef R_Lp 186 "there is no such side", Cond.stringRef R_Lp 191 "there is no such context", Cond.stringRef R_Lp 193 "a context has no such number", Cond.stringRef R_Lp 208 "there is no such setting"]
def vt_ws : List Cond := vt_w0 ++ (Bundle.ownAtoms R_Lp 88 "java/lang/IllegalArgumentException" vt_up ++ (Bundle.ownAtoms R_Lp 57 "java/lang/IllegalStateException" vt_up ++ (Bundle.ownAtoms R_Lp 185 "java/lang/IndexOutOfBoundsException" vt_up)
))theorem vt_own_88 : ∀ w ∈ Bundle.ownAtoms R_Lp 88 "java/lang/IllegalArgumentException" vt_up, w ∈ vt_ws := fun w h => List.mem_append_right _ (List.mem_append_left _ h)
theorem vt_own_57 : ∀ w ∈ Bundle.ownAtoms R_Lp 57 "java/lang/IllegalStateException" vt_up, w ∈ vt_ws := fun w h => List.mem_append_right _ (List.mem_append_right _ (List.mem_append_left _ h))
theorem vt_own_185 : ∀ w ∈ Bundle.ownAtoms R_Lp 185 "java/lang/IndexOutOfBoundsException" vt_up, w ∈ vt_ws := fun w h => List.mem_append_right _ (List.mem_append_right _ (List.mem_append_right _ (h)))
theorem vt_in_55 : ∀ w ∈ Cond.classLink R_Lp 53 "java/lang/IllegalStateException" :: Cond.initialized "java/lang/IllegalStateException" :: Cond.stringRef R_Lp 55 "a sample was told" :: Bundle.ownAtoms R_Lp 57 "java/lang/IllegalStateException" vt_up, w ∈ vt_ws := fun w h => by
  rcases List.mem_cons.mp h with e | h
  · rw [e]; exact List.mem_append_left _ (List.mem_of_getElem? (i := 1) rfl)
  rcases List.mem_cons.mp h with e | h
  · rw [e]; exact List.mem_append_left _ (List.mem_of_getElem? (i := 4) rfl)
  rcases List.mem_cons.mp h with e | h
  · rw [e]; exact List.mem_append_left _ (List.mem_of_getElem? (i := 6) rfl)
  exact vt_own_57 w h
theorem vt_in_82 : ∀ w ∈ Cond.classLink R_Lp 53 "java/lang/IllegalStateException" :: Cond.initialized "java/lang/IllegalStateException" :: Cond.stringRef R_Lp 82 "it is not this sample's turn" :: Bundle.ownAtoms R_Lp 57 "java/lang/IllegalStateException" vt_up, w ∈ vt_ws := fun w h => by
  rcases List.mem_cons.mp h with e | h
  · rw [e]; exact List.mem_append_left _ (List.mem_of_getElem? (i := 1) rfl)
  rcases List.mem_cons.mp h with e | h
  · rw [e]; exact List.mem_append_left _ (List.mem_of_getElem? (i := 4) rfl)
  rcases List.mem_cons.mp h with e | h
  · rw [e]; exact List.mem_append_left _ (List.mem_of_getElem? (i := 7) rfl)
  exact vt_own_57 w h
theorem vt_in_86 : ∀ w ∈ Cond.classLink R_Lp 84 "java/lang/IllegalArgumentException" :: Cond.initialized "java/lang/IllegalArgumentException" :: Cond.stringRef R_Lp 86 "no sample is this number" :: Bundle.ownAtoms R_Lp 88 "java/lang/IllegalArgumentException" vt_up, w ∈ vt_ws := fun w h => by
  rcases List.mem_cons.mp h with e | h
  · rw [e]; exact List.mem_append_left _ (List.mem_of_getElem? (i := 0) rfl)
  rcases List.mem_cons.mp h with e | h
  · rw [e]; exact List.mem_append_left _ (List.mem_of_getElem? (i := 3) rfl)
  rcases List.mem_cons.mp h with e | h
  · rw [e]; exact List.mem_append_left _ (List.mem_of_getElem? (i := 8) rfl)
  exact vt_own_88 w h
theorem vt_in_153 : ∀ w ∈ Cond.classLink R_Lp 84 "java/lang/IllegalArgumentException" :: Cond.initialized "java/lang/IllegalArgumentException" :: Cond.stringRef R_Lp 153 "nothing folds to this number" :: Bundle.ownAtoms R_Lp 88 "java/lang/IllegalArgumentException" vt_up, w ∈ vt_ws := fun w h => by
  rcases List.mem_cons.mp h with e | h
  · rw [e]; exact List.mem_append_left _ (List.mem_of_getElem? (i := 0) rfl)
  rcases List.mem_cons.mp h with e | h
  · rw [e]; exact List.mem_append_left _ (List.mem_of_getElem? (i := 3) rfl)
  rcases List.mem_cons.mp h with e | h
  · rw [e]; exact List.mem_append_left _ (List.mem_of_getElem? (i := 9) rfl)
  exact vt_own_88 w h
theorem vt_in_155 : ∀ w ∈ Cond.classLink R_Lp 84 "java/lang/IllegalArgumentException" :: Cond.initialized "java/lang/IllegalArgumentException" :: Cond.stringRef R_Lp 155 "it is no sample of a run" :: Bundle.ownAtoms R_Lp 88 "java/lang/IllegalArgumentException" vt_up, w ∈ vt_ws := fun w h => by
  rcases List.mem_cons.mp h with e | h
  · rw [e]; exact List.mem_append_left _ (List.mem_of_getElem? (i := 0) rfl)
  rcases List.mem_cons.mp h with e | h
  · rw [e]; exact List.mem_append_left _ (List.mem_of_getElem? (i := 3) rfl)
  rcases List.mem_cons.mp h with e | h
  · rw [e]; exact List.mem_append_left _ (List.mem_of_getElem? (i := 10) rfl)
  exact vt_own_88 w h
theorem vt_in_160 : ∀ w ∈ Cond.classLink R_Lp 84 "java/lang/IllegalArgumentException" :: Cond.initialized "java/lang/IllegalArgumentException" :: Cond.stringRef R_Lp 160 "no error folds to this number here" :: Bundle.ownAtoms R_Lp 88 "java/lang/IllegalArgumentException" vt_up, w ∈ vt_ws := fun w h => by
  rcases List.mem_cons.mp h with e | h
  · rw [e]; exact List.mem_append_left _ (List.mem_of_getElem? (i := 0) rfl)
  rcases List.mem_cons.mp h with e | h
  · rw [e]; exact List.mem_append_left _ (List.mem_of_getElem? (i := 3) rfl)
  rcases List.mem_cons.mp h with e | h
  · rw [e]; exact List.mem_append_left _ (List.mem_of_getElem? (i := 11) rfl)
  exact vt_own_88 w h
theorem vt_in_200 : ∀ w ∈ Cond.classLink R_Lp 84 "java/lang/IllegalArgumentException" :: Cond.initialized "java/lang/IllegalArgumentException" :: Cond.stringRef R_Lp 200 "no error is this number" :: Bundle.ownAtoms R_Lp 88 "java/lang/IllegalArgumentException" vt_up, w ∈ vt_ws := fun w h => by
  rcases List.mem_cons.mp h with e | h
  · rw [e]; exact List.mem_append_left _ (List.mem_of_getElem? (i := 0) rfl)
  rcases List.mem_cons.mp h with e | h
  · rw [e]; exact List.mem_append_left _ (List.mem_of_getElem? (i := 3) rfl)
  rcases List.mem_cons.mp h with e | h
  · rw [e]; exact List.mem_append_left _ (List.mem_of_getElem? (i := 12) rfl)
  exact vt_own_88 w h
theorem vt_in_183 : ∀ w ∈ Cond.classLink R_Lp 181 "java/lang/IndexOutOfBoundsException" :: Cond.initialized "java/lang/IndexOutOfBoundsException" :: Cond.stringRef R_Lp 183 "there is no such neighbour" :: Bundle.ownAtoms R_Lp 185 "java/lang/IndexOutOfBoundsException" vt_up, w ∈ vt_ws := fun w h => by
  rcases List.mem_cons.mp h with e | h
  · rw [e]; exact List.mem_append_left _ (List.mem_of_getElem? (i := 2) rfl)
  rcases List.mem_cons.mp h with e | h
  · rw [e]; exact List.mem_append_left _ (List.mem_of_getElem? (i := 5) rfl)
  rcases List.mem_cons.mp h with e | h
  · rw [e]; exact List.mem_append_left _ (List.mem_of_getElem? (i := 13) rfl)
  exact vt_own_185 w h
theorem vt_in_186 : ∀ w ∈ Cond.classLink R_Lp 181 "java/lang/IndexOutOfBoundsException" :: Cond.initialized "java/lang/IndexOutOfBoundsException" :: Cond.stringRef R_Lp 186 "there is no such side" :: Bundle.ownAtoms R_Lp 185 "java/lang/IndexOutOfBoundsException" vt_up, w ∈ vt_ws := fun w h => by
  rcases List.mem_cons.mp h with e | h
  · rw [e]; exact List.mem_append_left _ (List.mem_of_getElem? (i := 2) rfl)
  rcases List.mem_cons.mp h with e | h
  · rw [e]; exact List.mem_append_left _ (List.mem_of_getElem? (i := 5) rfl)
  rcases List.mem_cons.mp h with e | h
  · rw [e]; exact List.mem_append_left _ (List.mem_of_getElem? (i := 14) rfl)
  exact vt_own_185 w h
theorem vt_in_191 : ∀ w ∈ Cond.classLink R_Lp 181 "java/lang/IndexOutOfBoundsException" :: Cond.initialized "java/lang/IndexOutOfBoundsException" :: Cond.stringRef R_Lp 191 "there is no such context" :: Bundle.ownAtoms R_Lp 185 "java/lang/IndexOutOfBoundsException" vt_up, w ∈ vt_ws := fun w h => by
  rcases List.mem_cons.mp h with e | h
  · rw [e]; exact List.mem_append_left _ (List.mem_of_getElem? (i := 2) rfl)
  rcases List.mem_cons.mp h with e | h
  · rw [e]; exact List.mem_append_left _ (List.mem_of_getElem? (i := 5) rfl)
  rcases List.mem_cons.mp h with e | h
  · rw [e]; exact List.mem_append_left _ (List.mem_of_getElem? (i := 15) rfl)
  exact vt_own_185 w h
theorem vt_in_193 : ∀ w ∈ Cond.classLink R_Lp 181 "java/lang/IndexOutOfBoundsException" :: Cond.initialized "java/lang/IndexOutOfBoundsException" :: Cond.stringRef R_Lp 193 "a context has no such number" :: Bundle.ownAtoms R_Lp 185 "java/lang/IndexOutOfBoundsException" vt_up, w ∈ vt_ws := fun w h => by
  rcases List.mem_cons.mp h with e | h
  · rw [e]; exact List.mem_append_left _ (List.mem_of_getElem? (i := 2) rfl)
  rcases List.mem_cons.mp h with e | h
  · rw [e]; exact List.mem_append_left _ (List.mem_of_getElem? (i := 5) rfl)
  rcases List.mem_cons.mp h with e | h
  · rw [e]; exact List.mem_append_left _ (List.mem_of_getElem? (i := 16) rfl)
  exact vt_own_185 w h
theorem vt_in_208 : ∀ w ∈ Cond.classLink R_Lp 181 "java/lang/IndexOutOfBoundsException" :: Cond.initialized "java/lang/IndexOutOfBoundsException" :: Cond.stringRef R_Lp 208 "there is no such setting" :: Bundle.ownAtoms R_Lp 185 "java/lang/IndexOutOfBoundsException" vt_up, w ∈ vt_ws := fun w h => by
  rcases List.mem_cons.mp h with e | h
  · rw [e]; exact List.mem_append_left _ (List.mem_of_getElem? (i := 2) rfl)
  rcases List.mem_cons.mp h with e | h
  · rw [e]; exact List.mem_append_left _ (List.mem_of_getElem? (i := 5) rfl)
  rcases List.mem_cons.mp h with e | h
  · rw [e]; exact List.mem_append_left _ (List.mem_of_getElem? (i := 17) rfl)
  exact vt_own_185 w h
theorem vq_aw {n : Nat} {d rr : Nat → Int32} {v r : Int32} (e : f_awaits n d rr v = r) (h : ¬ r = 0) : d 1 < d 0 := by
  unfold f_awaits at e
  split at e
  · exact absurd e.symm h
  · next h1 => exact Int32.not_le.mp h1
