/-! the class's state, and what may change unseen -/
def CK (ws : Int → List Int) (sz : zSz) (ar : zAr) : Prop :=
  MOK (sz 3 4) (ar 4) (ar 5) ∧ (0 ≤ sz 1 1 ∧ sz 1 1 ≤ 24 ∧ ∀ i, zr (ar 2 i)) ∧
  (∀ w : Int, 0 ≤ w → w < 3 → LR (sz (14 + 2 * w).toNat 1) (ar ((14 + 2 * w).toNat + 1)) (ws w) ∧ Lt (sz 3 4) (ws w) ∧ (ws w).length ≤ 16) ∧
  (0 ≤ sz 27 1 ∧ sz 27 1 ≤ 6 ∧ ∀ s, 0 ≤ s → s < 6 → 0 ≤ ar 28 s ∧ ar 28 s < 32) ∧ zr (sz 0 11)
/-- only what is never seen has changed -/
def Fg (sz : zSz) (ar : zAr) (sz' : zSz) (ar' : zAr) : Prop := (∀ j, j < 31 ∨ 40 < j → sz' j = sz j) ∧ ∀ j, j ≠ 6 → j ≠ 7 → j < 32 ∨ 39 < j → ar' j = ar j
theorem Fg.rf {sz : zSz} {ar : zAr} : Fg sz ar sz ar := ⟨fun _ _ => rfl, fun _ _ _ _ => rfl⟩
theorem Fg.tr {sz sz' sz'' : zSz} {ar ar' ar'' : zAr} (h : Fg sz ar sz' ar') (h2 : Fg sz' ar' sz'' ar'') : Fg sz ar sz'' ar'' := ⟨fun j a => (h2.1 j a).trans (h.1 j a), fun j a b c => (h2.2 j a b c).trans (h.2 j a b c)⟩
theorem Ft.g {sz sz' : zSz} {ar ar' : zAr} (h : Ft sz ar sz' ar') : Fg sz ar sz' ar' := ⟨fun j a => h.1 j (by omega) (by omega) (by omega), fun j _ _ c => h.2 j (by omega) (by omega) (by omega) (by omega)⟩
theorem Fa.g {sz : zSz} {ar ar' : zAr} (h : Fa ar ar') : Fg sz ar sz ar' := ⟨fun _ _ => rfl, fun j a b _ => h j a b⟩
theorem Fr.g {k : Nat} {sz sz' : zSz} {ar ar' : zAr} (h : Fr k sz ar sz' ar') (hk : k = 34 ∨ k = 36 ∨ k = 38) : Fg sz ar sz' ar' := ⟨fun j a => h.1 j (by omega), fun j _ _ c => h.2 j (by omega)⟩
theorem CK.g {ws : Int → List Int} {sz sz' : zSz} {ar ar' : zAr} (h : CK ws sz ar) (hF : Fg sz ar sz' ar') : CK ws sz' ar' := by
  obtain ⟨h1, h2, h3, h4, h5⟩ := h
  unfold CK
  rw [hF.1 3 (by omega), hF.1 1 (by omega), hF.1 27 (by omega), hF.1 0 (by omega), hF.2 4 (by omega) (by omega) (by omega), hF.2 5 (by omega) (by omega) (by omega), hF.2 2 (by omega) (by omega) (by omega), hF.2 28 (by omega) (by omega) (by omega)]
  refine ⟨h1, h2, fun w a b => ?_, h4, h5⟩
  rw [hF.1 (14 + 2 * w).toNat (by omega), hF.2 ((14 + 2 * w).toNat + 1) (by omega) (by omega) (by omega)]
  exact h3 w a b
theorem isLw {w : Int} (h0 : 0 ≤ w) (h1 : w < 3) : isL (14 + 2 * w).toNat := by
  have : w = 0 ∨ w = 1 ∨ w = 2 := by omega
  unfold isL
  rcases this with rfl | rfl | rfl <;> decide
theorem isLk {w : Int} (h0 : 0 ≤ w) (h1 : w < 3) : isL (21 + 2 * w).toNat := by
  have : w = 0 ∨ w = 1 ∨ w = 2 := by omega
  unfold isL
  rcases this with rfl | rfl | rfl <;> decide
theorem capw {w : Int} (h0 : 0 ≤ w) (h1 : w < 3) : cap (14 + 2 * w).toNat = 16 := by
  unfold cap
  rw [if_pos (by omega)]
theorem capk {w : Int} (h0 : 0 ≤ w) (h1 : w < 3) : cap (21 + 2 * w).toNat = 16 := by
  unfold cap
  rw [if_pos (by omega)]
theorem p2_12 : ∀ k, k ≤ 12 → (2 : Int) ^ k ≤ 4096 := by decide
/-- at which rows a word flips -/
def fbk (kd nx : Int → Int) (len : Nat) (xs : List Int) : Nat → Int
  | 0 => 0
  | j + 1 => zor (fbk kd nx len xs j) (rwd kd nx (len + 1) xs (2 * j) % 2 * 2 ^ j)
theorem fbk_r (kd nx : Int → Int) (len : Nat) (xs : List Int) : ∀ j, 0 ≤ fbk kd nx len xs j ∧ fbk kd nx len xs j < 2 ^ j := by
  intro j
  induction j with
  | zero => exact ⟨Int.le_refl 0, show (0 : Int) < 1 by decide⟩
  | succ j ih =>
    have hp := p2_pos j
    have e := p2_succ j
    have hm : 0 ≤ rwd kd nx (len + 1) xs (2 * j) % 2 ∧ rwd kd nx (len + 1) xs (2 * j) % 2 ≤ 1 := by omega
    have h1 : 0 ≤ rwd kd nx (len + 1) xs (2 * j) % 2 * 2 ^ j := Int.mul_nonneg hm.1 (by omega)
    have h2 : rwd kd nx (len + 1) xs (2 * j) % 2 * 2 ^ j ≤ 1 * 2 ^ j := Int.mul_le_mul_of_nonneg_right hm.2 (by omega)
    refine ⟨zor_0 _ _, zor_lt ih.1 h1 (by omega) (by omega)⟩
/-- how often till it is as it was: among the next m -/
def rdG (f : Int → Int) (row : Int) : Nat → Int → Int → Int
  | 0, _, _ => -1
  | m + 1, now, d => if f now = row then d else rdG f row m (f now) (d + 1)
/-- a word often behind itself -/
def pwr (xs : List Int) : Nat → List Int
  | 0 => []
  | i + 1 => xs.foldl red (pwr xs i)
theorem pwr_len (xs : List Int) : ∀ i, (pwr xs i).length ≤ i * xs.length := by
  intro i
  induction i with
  | zero => simp [pwr]
  | succ i ih =>
    have := foldl_red_len xs (pwr xs i)
    unfold pwr
    rw [Nat.succ_mul]
    omega
theorem pwr_Lt {n : Int} {xs : List Int} (h : Lt n xs) : ∀ i, Lt n (pwr xs i)
  | 0 => Lt.nil
  | i + 1 => Lt.fold h (pwr_Lt h i)
def ordG (kd nx : Int → Int) (xs : List Int) : Nat → Nat → Int
  | 0, _ => -1
  | m + 1, i => if ntw kd nx (pwr xs i) = 1 then i else if ntw kd nx (pwr xs i) = -1 then -1 else ordG kd nx xs m (i + 1)
/-- sorts, and what to ask -/
def pcn (x : Int) : Int := x % 2 + x / 2 % 2 + x / 4 % 2 + x / 8 % 2 + x / 16 % 2
def lft (v q : Int) : Int := if pcn (zand v (zsy q)) < pcn v - pcn (zand v (zsy q)) then pcn v - pcn (zand v (zsy q)) else pcn (zand v (zsy q))
def bqS (v : Int) (a : Int × Int) (q : Int) : Int × Int := if lft v q < a.2 then (q, lft v q) else a
def bq (v : Int) : Int := if v = 0 then -1 else (bqS v (bqS v (bqS v (0, lft v 0) 1) 2) 3).1
theorem zsy_r (q : Int) : 0 ≤ zsy q ∧ zsy q < 32 := by
  unfold zsy
  split
  · decide
  · split
    · decide
    · split <;> decide
theorem zand_le {a b : Int} (ha : 0 ≤ a) : zand a b ≤ a := by
  unfold zand
  have := Nat.and_le_left (n := a.toNat) (m := b.toNat)
  omega
/-- what is told of a state, and of all -/
noncomputable def stV (n : Int) (kd nx so : Int → Int) (s what : Int) : Int :=
  if what = 0 then kd s else if what = 1 then nx (2 * s + 0) else if what = 2 then nx (2 * s + 1) else if what = 3 then rch kd nx n s else if what = 4 then zb (inC kd nx n s) else if what = 5 then lea kd nx s else if what = 6 then so s else bq (so s)
noncomputable def cnV (n : Int) (kd nx : Int → Int) (wl se pl mr what : Int) : Int :=
  if what = 0 then n else if what = 1 then cnt (fun k => lea kd nx k = k) n.toNat else if what = 2 then cnt (inC kd nx n) n.toNat else if what = 3 then wl else if what = 4 then se else if what = 5 then pl else if what = 6 then mr else -102
/-- a stronger end -/
theorem z_wk {G : zG} {M : zM} {d pc : Nat} {L : List (Option zV)} {stk : List zV} {st : zS} {P P' : Int → zS → Prop} (h : zWP G M d (zpi P) pc L stk st) (hp : ∀ x u, P x u → P' x u) : zWP G M d (zpi P') pc L stk st := by
  intro p l e s m args below meth c H locs ls F J Pw S hl T hT X
  obtain ⟨t, a, o, h1, h2, ⟨⟨r, u, q1, ⟨x, q2, q3⟩, q4⟩, q5⟩, q6⟩ := h p l e s m args below meth c H locs ls F J Pw S hl T hT X
  exact ⟨t, a, o, h1, h2, ⟨⟨r, u, q1, ⟨x, q2, hp x u q3⟩, q4⟩, q5⟩, q6⟩
theorem z_wkl {G : zG} {M : zM} {d pc : Nat} {L : List (Option zV)} {stk : List zV} {st : zS} {P P' : Int → zS → Prop} (h : zWP G M d (zpl P) pc L stk st) (hp : ∀ x u, P x u → P' x u) : zWP G M d (zpl P') pc L stk st := by
  intro p l e s m args below meth c H locs ls F J Pw S hl T hT X
  obtain ⟨t, a, o, h1, h2, ⟨⟨r, u, q1, ⟨x, q2, q3⟩, q4⟩, q5⟩, q6⟩ := h p l e s m args below meth c H locs ls F J Pw S hl T hT X
  exact ⟨t, a, o, h1, h2, ⟨⟨r, u, q1, ⟨x, q2, hp x u q3⟩, q4⟩, q5⟩, q6⟩
theorem z_wkv {G : zG} {M : zM} {d pc : Nat} {L : List (Option zV)} {stk : List zV} {st : zS} {P P' : zS → Prop} (h : zWP G M d (zpv P) pc L stk st) (hp : ∀ u, P u → P' u) : zWP G M d (zpv P') pc L stk st := by
  intro p l e s m args below meth c H locs ls F J Pw S hl T hT X
  obtain ⟨t, a, o, h1, h2, ⟨⟨r, u, q1, ⟨q2, q3⟩, q4⟩, q5⟩, q6⟩ := h p l e s m args below meth c H locs ls F J Pw S hl T hT X
  exact ⟨t, a, o, h1, h2, ⟨⟨r, u, q1, ⟨q2, hp u q3⟩, q4⟩, q5⟩, q6⟩
