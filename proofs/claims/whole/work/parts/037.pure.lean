/-! words as lists of whole numbers -/
def inv (l : Int) : Int := zxor l 1
theorem inv_val {l : Int} (h : 0 ≤ l) : inv l = if l % 2 = 0 then l + 1 else l - 1 := by
  obtain ⟨x, rfl⟩ := Int.eq_ofNat_of_zero_le h
  unfold inv zxor
  have e : ((x : Int).toNat ^^^ (1 : Int).toNat) = x ^^^ 1 := rfl
  rw [e]
  have h2 : x ^^^ 1 = if x % 2 = 0 then x + 1 else x - 1 := by
    have h3 : (x ^^^ 1) / 2 = x / 2 := by
      have := Nat.xor_div_two_pow (a := x) (b := 1) (n := 1)
      simpa using this
    have h4 : (x ^^^ 1) % 2 = (x + 1) % 2 := by
      have := Nat.xor_mod_two_pow (a := x) (b := 1) (n := 1)
      simp at this
      rcases Nat.mod_two_eq_zero_or_one x with q | q
      · rw [this, q]; show (0 ^^^ 1 : Nat) = _; have e9 : (0 ^^^ 1 : Nat) = 1 := rfl; omega
      · rw [this, q]; show (1 ^^^ 1 : Nat) = _; have e9 : (1 ^^^ 1 : Nat) = 0 := rfl; omega
    split <;> omega
  rw [h2]
  split <;> split <;> omega
theorem inv_0 {l : Int} (h : 0 ≤ l) : 0 ≤ inv l := zxor_0 _ _
theorem inv_inv {l : Int} (h : 0 ≤ l) : inv (inv l) = l := by
  rw [inv_val (inv_0 h), inv_val h]
  split <;> split <;> omega
theorem inv_iff {a b : Int} (ha : 0 ≤ a) (hb : 0 ≤ b) : a = inv b ↔ inv a = b := ⟨fun h => by rw [h, inv_inv hb], fun h => by rw [← h, inv_inv ha]⟩
theorem inv_half {l : Int} (h : 0 ≤ l) : inv l / 2 = l / 2 := by
  rw [inv_val h]
  split <;> omega
theorem inv_lt {l n : Int} (h : 0 ≤ l) (h2 : l < 2 * n) : inv l < 2 * n := by
  rw [inv_val h]
  split <;> omega
/-- a letter comes behind a word -/
def red (xs : List Int) (l : Int) : List Int := if xs.getLast? = some (inv l) then xs.dropLast else xs ++ [l]
/-- an array holds a word -/
def LR (n : Int) (f : Int → Int) (xs : List Int) : Prop := n = xs.length ∧ ∀ i : Nat, i < xs.length → f i = xs.getD i 0
theorem LR.nil {f : Int → Int} : LR 0 f [] := ⟨rfl, fun i h => absurd h (Nat.not_lt_zero i)⟩
theorem LR.get {n : Int} {f : Int → Int} {xs : List Int} (h : LR n f xs) {i : Int} (h0 : 0 ≤ i) (h1 : i < n) : f i = xs.getD i.toNat 0 := by
  have h2 := h.2 i.toNat (by rw [h.1] at h1; omega)
  rwa [Int.toNat_of_nonneg h0] at h2
theorem LR.last {n : Int} {f : Int → Int} {xs : List Int} (h : LR n f xs) (h0 : 0 < n) : xs.getLast? = some (f (n - 1)) := by
  obtain ⟨h1, h2⟩ := h
  have hl : 0 < xs.length := by omega
  have e : n - 1 = ((xs.length - 1 : Nat) : Int) := by omega
  rw [e, h2 _ (by omega), List.getLast?_eq_getElem?, List.getD_eq_getElem?_getD]
  rw [List.getElem?_eq_getElem (by omega)]
  rfl
theorem LR.red1 {n l : Int} {f : Int → Int} {xs : List Int} (h : LR n f xs) (h0 : 0 < n) (e : f (n - 1) = inv l) : LR (n - 1) f (red xs l) := by
  have hl := h.last h0
  unfold red
  rw [if_pos (by rw [hl, e])]
  obtain ⟨h1, h2⟩ := h
  refine ⟨by rw [List.length_dropLast]; omega, fun i hi => ?_⟩
  rw [List.length_dropLast] at hi
  rw [h2 i (by omega), List.getD_eq_getElem?_getD, List.getD_eq_getElem?_getD, List.getElem?_dropLast, if_pos hi]
theorem LR.add {n l : Int} {f : Int → Int} {xs : List Int} (h : LR n f xs) : LR (n + 1) (zf f n l) (xs ++ [l]) := by
  obtain ⟨h1, h2⟩ := h
  refine ⟨by rw [List.length_append]; simp; omega, fun i hi => ?_⟩
  rw [List.length_append] at hi
  simp only [List.length_cons, List.length_nil] at hi
  by_cases hh : i < xs.length
  · rw [zf_ne (by omega), h2 i hh, List.getD_eq_getElem?_getD, List.getD_eq_getElem?_getD, List.getElem?_append_left hh]
  · have : i = xs.length := by omega
    subst this
    rw [h1, zf_eq, List.getD_eq_getElem?_getD, List.getElem?_append_right (Nat.le_refl _)]
    simp
theorem LR.red2 {n l : Int} {f : Int → Int} {xs : List Int} (h : LR n f xs) (e : n ≤ 0 ∨ f (n - 1) ≠ inv l) : LR (n + 1) (zf f n l) (red xs l) := by
  have hne : ¬ xs.getLast? = some (inv l) := by
    intro z
    by_cases h0 : 0 < n
    · rw [h.last h0] at z
      rcases e with e | e
      · omega
      · exact e (Option.some.inj z)
    · have : xs = [] := List.length_eq_zero_iff.mp (by have := h.1; omega)
      rw [this] at z
      cases z
  unfold red
  rw [if_neg hne]
  exact h.add
theorem red_len (xs : List Int) (l : Int) : (red xs l).length ≤ xs.length + 1 := by
  unfold red
  split
  · rw [List.length_dropLast]; omega
  · simp
theorem foldl_red_len (ls : List Int) : ∀ xs : List Int, (ls.foldl red xs).length ≤ xs.length + ls.length := by
  induction ls with
  | nil => intro xs; simp
  | cons a t ih =>
    intro xs
    have h1 := ih (red xs a)
    have h2 := red_len xs a
    simp only [List.foldl_cons, List.length_cons]
    omega
/-- only a row of letters has changed -/
def Fr (k : Nat) (sz : zSz) (ar : zAr) (sz' : zSz) (ar' : zAr) : Prop := (∀ j, j ≠ k → sz' j = sz j) ∧ (∀ j, j ≠ k + 1 → ar' j = ar j)
theorem Fr.rf {k : Nat} {sz : zSz} {ar : zAr} : Fr k sz ar sz ar := ⟨fun _ _ => rfl, fun _ _ => rfl⟩
theorem Fr.tr {k : Nat} {sz sz' sz'' : zSz} {ar ar' ar'' : zAr} (h : Fr k sz ar sz' ar') (h2 : Fr k sz' ar' sz'' ar'') : Fr k sz ar sz'' ar'' := ⟨fun j hj => (h2.1 j hj).trans (h.1 j hj), fun j hj => (h2.2 j hj).trans (h.2 j hj)⟩
/-- behind it the row k holds a word, and nothing else has changed -/
def zLP (k : Nat) (xs : List Int) (sz : zSz) (ar : zAr) (u : zS) : Prop := ∃ (sz' : zSz) (ar' : zAr), u = X sz' ar' ∧ LR (sz' k 1) (ar' (k + 1)) xs ∧ Fr k sz ar sz' ar'
