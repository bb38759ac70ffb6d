/-! the whole store: 41 cells of the class, 20 of the reference; s: the numbers in a cell's fields, f: what an array holds -/
def XF (k : Nat) (s : Nat → Int) (f : Int → Int) : zC := match k with
  | 0 => zO 6 [zR 1, zR 3, zR 8, zR 13, zR 20, zR 27, zR 29, zR 31, zR 38, zR 40, zI (s 10), zI (s 11)]
  | 1 => zO 2 [zR 2, zI (s 1)]
  | 2 => zA 1 24 f
  | 3 => zO 3 [zR 4, zR 5, zR 6, zR 7, zI (s 4)]
  | 4 => zA 1 6 f
  | 5 => zA 1 12 f
  | 6 => zA 1 7 f
  | 7 => zA 1 7 f
  | 8 => zO 3 [zR 9, zR 10, zR 11, zR 12, zI (s 4)]
  | 9 => zA 1 6 f
  | 10 => zA 1 12 f
  | 11 => zA 1 7 f
  | 12 => zA 1 7 f
  | 13 => zA 4 3 (fun j => 14 + 2 * j)
  | 14 => zO 1 [zR 15, zI (s 1)]
  | 15 => zA 1 16 f
  | 16 => zO 1 [zR 17, zI (s 1)]
  | 17 => zA 1 16 f
  | 18 => zO 1 [zR 19, zI (s 1)]
  | 19 => zA 1 16 f
  | 20 => zA 4 3 (fun j => 21 + 2 * j)
  | 21 => zO 1 [zR 22, zI (s 1)]
  | 22 => zA 1 16 f
  | 23 => zO 1 [zR 24, zI (s 1)]
  | 24 => zA 1 16 f
  | 25 => zO 1 [zR 26, zI (s 1)]
  | 26 => zA 1 16 f
  | 27 => zO 5 [zR 28, zI (s 1)]
  | 28 => zA 1 6 f
  | 29 => zO 5 [zR 30, zI (s 1)]
  | 30 => zA 1 6 f
  | 31 => zO 4 [zR 32, zR 33, zR 34, zR 36, zI (s 4)]
  | 32 => zA 2 328 f
  | 33 => zA 2 8 f
  | 34 => zO 1 [zR 35, zI (s 1)]
  | 35 => zA 1 128 f
  | 36 => zO 1 [zR 37, zI (s 1)]
  | 37 => zA 1 128 f
  | 38 => zO 1 [zR 39, zI (s 1)]
  | 39 => zA 1 128 f
  | 40 => zO 0 [zL (s 0)]
  | 41 => zO 7 [zI (s 0), zR 42, zR 43, zI (s 3), zR 44, zR 45, zI (s 6), zR 46, zR 47, zR 48, zI (s 10), zR 49, zI (s 12), zR 50, zI (s 14), zR 51, zR 52, zL (s 17), zR 53, zI (s 19), zI (s 20), zI (s 21), zR 54, zR 55, zR 56, zR 57, zR 58, zR 59, zR 60, zL (s 29)]
  | 42 => zA 1 6 f
  | 43 => zA 1 12 f
  | 44 => zA 1 3 f
  | 45 => zA 1 48 f
  | 46 => zA 1 6 f
  | 47 => zA 1 6 f
  | 48 => zA 3 6 f
  | 49 => zA 1 24 f
  | 50 => zA 1 128 f
  | 51 => zA 1 41 f
  | 52 => zA 0 5248 f
  | 53 => zA 1 4 f
  | 54 => zA 1 6 f
  | 55 => zA 1 12 f
  | 56 => zA 1 3 f
  | 57 => zA 1 48 f
  | 58 => zA 1 6 f
  | 59 => zA 1 6 f
  | 60 => zA 3 6 f
  | _ => zA 99 0 (fun _ => 0)
abbrev zSz : Type := Nat → Nat → Int
abbrev zAr : Type := Nat → Int → Int
def X (sz : zSz) (ar : zAr) : zS := fun k => XF k (sz k) (ar k)
def zs (s : Nat → Int) (i : Nat) (x : Int) : Nat → Int := fun j => if j = i then x else s j
def zz (sz : zSz) (k i : Nat) (x : Int) : zSz := fun j => if j = k then zs (sz k) i x else sz j
def zq (ar : zAr) (k : Nat) (f : Int → Int) : zAr := fun j => if j = k then f else ar j
theorem X_J (sz : zSz) (ar : zAr) : zJ (X sz ar) := by
  intro k hk
  obtain ⟨j, rfl⟩ : ∃ j, k = j + 61 := ⟨k - 61, by have : zN = 61 := rfl; omega⟩
  rfl
theorem X_putS {sz : zSz} {ar : zAr} {k i : Nat} {x : Int} {c : zC} (h : c = XF k (zs (sz k) i x) (ar k)) : zu (X sz ar) k c = X (zz sz k i x) ar := by
  funext j
  by_cases hj : j = k
  · subst hj; simp [zu, X, zz, h]
  · simp [zu, X, zz, hj]
theorem X_putA {sz : zSz} {ar : zAr} {k : Nat} {f : Int → Int} {c : zC} (h : c = XF k (sz k) f) : zu (X sz ar) k c = X sz (zq ar k f) := by
  funext j
  by_cases hj : j = k
  · subst hj; simp [zu, X, zq, h]
  · simp [zu, X, zq, hj]
theorem zs_eq {s : Nat → Int} {i : Nat} {x : Int} : zs s i x i = x := if_pos rfl
theorem zs_ne {s : Nat → Int} {i j : Nat} {x : Int} (h : j ≠ i) : zs s i x j = s j := if_neg h
theorem zz_eq {sz : zSz} {k i : Nat} {x : Int} : zz sz k i x k i = x := by simp [zz, zs]
theorem zz_ne {sz : zSz} {k i j : Nat} {x : Int} (h : j ≠ k) : zz sz k i x j = sz j := if_neg h
theorem zz_ni {sz : zSz} {k i j : Nat} {x : Int} (h : j ≠ i) : zz sz k i x k j = sz k j := by simp [zz, zs, h]
theorem zq_eq {ar : zAr} {k : Nat} {f : Int → Int} : zq ar k f k = f := if_pos rfl
theorem zq_ne {ar : zAr} {k j : Nat} {f : Int → Int} (h : j ≠ k) : zq ar k f j = ar j := if_neg h
section ZX
variable {G : zG} {M : zM} {B : Room × Nat × Nat} {Q : List Frame → Array Value → State → State → Prop} {pc n : Nat} {L : List (Option zV)} {stk : List zV} {sz : zSz} {ar : zAr}
theorem z_putX {k ci i ix : Nat} {fs : List zV} {a : Int} (hd : decode M.2.1 pc = .ok (.putfield ix, 3)) (hn : pc + 3 = n) (hst : X sz ar k = zO ci fs) (hf : zFw M.1.cls ix ci i .int) (hi : i < fs.length) (hq : zO ci (fs.set i (zI a)) = XF k (zs (sz k) i a) (ar k)) (kk : zW G M B Q n L stk (X (zz sz k i a) ar)) : zW G M B Q pc L (zI a :: zR k :: stk) (X sz ar) :=
  z_put hd hn hst hf hi (by rw [X_putS hq]; exact kk)
theorem z_putLX {k ci i ix : Nat} {fs : List zV} {a : Int} (hd : decode M.2.1 pc = .ok (.putfield ix, 3)) (hn : pc + 3 = n) (hst : X sz ar k = zO ci fs) (hf : zFw M.1.cls ix ci i .long) (hi : i < fs.length) (hq : zO ci (fs.set i (zL a)) = XF k (zs (sz k) i a) (ar k)) (kk : zW G M B Q n L stk (X (zz sz k i a) ar)) : zW G M B Q pc L (zL a :: zR k :: stk) (X sz ar) :=
  z_putL hd hn hst hf hi (by rw [X_putS hq]; exact kk)
theorem z_putZX {k ci i ix : Nat} {fs : List zV} {a : Int} (hd : decode M.2.1 pc = .ok (.putfield ix, 3)) (hn : pc + 3 = n) (hst : X sz ar k = zO ci fs) (hf : zFw M.1.cls ix ci i .boolean) (ha : a = 0 ∨ a = 1) (hi : i < fs.length) (hq : zO ci (fs.set i (zI a)) = XF k (zs (sz k) i a) (ar k)) (kk : zW G M B Q n L stk (X (zz sz k i a) ar)) : zW G M B Q pc L (zI a :: zR k :: stk) (X sz ar) :=
  z_putZ hd hn hst hf ha hi (by rw [X_putS hq]; exact kk)
theorem z_iastX {k N : Nat} {i v : Int} (hd : decode M.2.1 pc = .ok (.iastore, 1)) (hn : pc + 1 = n) (hst : X sz ar k = zA 1 N (ar k)) (h0 : 0 ≤ i) (h1 : i < N) (h2 : N < 2147483648) (hq : zA 1 N (zf (ar k) i v) = XF k (sz k) (zf (ar k) i v)) (kk : zW G M B Q n L stk (X sz (zq ar k (zf (ar k) i v)))) : zW G M B Q pc L (zI v :: zI i :: zR k :: stk) (X sz ar) :=
  z_iast hd hn hst h0 h1 h2 (by rw [X_putA hq]; exact kk)
theorem z_lastX {k N : Nat} {i v : Int} (hd : decode M.2.1 pc = .ok (.lastore, 1)) (hn : pc + 1 = n) (hst : X sz ar k = zA 2 N (ar k)) (h0 : 0 ≤ i) (h1 : i < N) (h2 : N < 2147483648) (hq : zA 2 N (zf (ar k) i v) = XF k (sz k) (zf (ar k) i v)) (kk : zW G M B Q n L stk (X sz (zq ar k (zf (ar k) i v)))) : zW G M B Q pc L (zL v :: zI i :: zR k :: stk) (X sz ar) :=
  z_last hd hn hst h0 h1 h2 (by rw [X_putA hq]; exact kk)
theorem z_bastX {k N : Nat} {i v : Int} (hd : decode M.2.1 pc = .ok (.bastore, 1)) (hn : pc + 1 = n) (hst : X sz ar k = zA 0 N (ar k)) (h0 : 0 ≤ i) (h1 : i < N) (h2 : N < 2147483648) (h3 : -128 ≤ v) (h4 : v < 128) (hq : zA 0 N (zf (ar k) i v) = XF k (sz k) (zf (ar k) i v)) (kk : zW G M B Q n L stk (X sz (zq ar k (zf (ar k) i v)))) : zW G M B Q pc L (zI v :: zI i :: zR k :: stk) (X sz ar) :=
  z_bast hd hn hst h0 h1 h2 h3 h4 (by rw [X_putA hq]; exact kk)
theorem z_zastX {k N : Nat} {i v : Int} (hd : decode M.2.1 pc = .ok (.bastore, 1)) (hn : pc + 1 = n) (hst : X sz ar k = zA 3 N (ar k)) (h0 : 0 ≤ i) (h1 : i < N) (h2 : N < 2147483648) (h3 : v = 0 ∨ v = 1) (hq : zA 3 N (zf (ar k) i v) = XF k (sz k) (zf (ar k) i v)) (kk : zW G M B Q n L stk (X sz (zq ar k (zf (ar k) i v)))) : zW G M B Q pc L (zI v :: zI i :: zR k :: stk) (X sz ar) :=
  z_zast hd hn hst h0 h1 h2 h3 (by rw [X_putA hq]; exact kk)
theorem z_by {a : Int} {st : zS} (v : Int) (kt : a = v → zW G M B Q pc L (zI a :: stk) st) (kf : a ≠ v → zW G M B Q pc L (zI a :: stk) st) : zW G M B Q pc L (zI a :: stk) st := by
  by_cases h : a = v
  · exact kt h
  · exact kf h
theorem z_icmp_same {a off : Int} {tg : Nat} {st : zS} (hd : decode M.2.1 pc = .ok (.if_icmp .eq off, 3)) (ht : (pc : Int) + off = (tg : Int)) (k : zW G M B Q tg L stk st) : zW G M B Q pc L (zI a :: zI a :: stk) st := by
  intro p l e s m args below meth c H locs ls F J P S hl
  exact lv_icmp_eq F.1 F.2.1 hd ht (fun _ => k p l e s m args below meth c H locs ls F J P S hl) (fun h => absurd rfl h)
end ZX
theorem zrm {M' : zM} {d' d : Nat} (h : d' + 1 ≤ d) (h2 : M'.2.2.1 ≤ 21) : zroom M' d' (zRm d, 0, 0) := by
  refine ⟨h, ?_, Nat.le_refl _, Nat.le_refl _⟩
  show 8 + (M'.2.2.1 + 11) + 40 * d' ≤ 40 * d
  omega
/-- the rows of letters -/
def isL (k : Nat) : Prop := k = 14 ∨ k = 16 ∨ k = 18 ∨ k = 21 ∨ k = 23 ∨ k = 25 ∨ k = 34 ∨ k = 36 ∨ k = 38
def cap (k : Nat) : Nat := if k < 30 then 16 else 128
theorem XL1 {k : Nat} (h : isL k) {sz : zSz} {ar : zAr} : X sz ar k = zO 1 [zR (k + 1), zI (sz k 1)] := by
  rcases h with h | h | h | h | h | h | h | h | h <;> subst h <;> rfl
theorem XL2 {k : Nat} (h : isL k) {sz : zSz} {ar : zAr} : X sz ar (k + 1) = zA 1 (cap k) (ar (k + 1)) := by
  rcases h with h | h | h | h | h | h | h | h | h <;> subst h <;> rfl
theorem XL3 {k : Nat} (h : isL k) {sz : zSz} {ar : zAr} (x : Int) : zO 1 ([zR (k + 1), zI (sz k 1)].set 1 (zI x)) = XF k (zs (sz k) 1 x) (ar k) := by
  rcases h with h | h | h | h | h | h | h | h | h <;> subst h <;> rfl
theorem XL4 {k : Nat} (h : isL k) {sz : zSz} (f : Int → Int) : zA 1 (cap k) f = XF (k + 1) (sz (k + 1)) f := by
  rcases h with h | h | h | h | h | h | h | h | h <;> subst h <;> rfl
theorem cap_r (k : Nat) : (cap k : Nat) = 16 ∨ cap k = 128 := by unfold cap; split <;> simp
theorem isL_1 {k j : Nat} (h : isL k) (h2 : isL j) : k ≠ j + 1 := by unfold isL at *; omega
