/-! words packed into longs, four bits a letter -/
theorem zor_add {a b : Int} {k : Nat} (h0 : 0 ≤ a) (h1 : a < 2 ^ k) (hb : 0 ≤ b) : zor a (b * 2 ^ k) = a + b * 2 ^ k := by
  obtain ⟨x, rfl⟩ := Int.eq_ofNat_of_zero_le h0
  obtain ⟨y, rfl⟩ := Int.eq_ofNat_of_zero_le hb
  have e1 : x < 2 ^ k := by exact_mod_cast h1
  have e2 : ((y : Int) * 2 ^ k) = ((2 ^ k * y : Nat) : Int) := by simp [Int.mul_comm]
  rw [e2]
  unfold zor
  rw [Int.toNat_natCast, Int.toNat_natCast, Nat.or_comm, ← Nat.two_pow_add_eq_or_of_lt e1 y]
  simp [Int.add_comm]
/-- a letter's four bits, of the first i letters -/
def dg (xs : List Int) (i k : Nat) : Int := if k < i then xs.getD k 0 + 1 else 0
/-- the first m places of the long q, of the first i letters -/
def pvl (xs : List Int) (i q : Nat) : Nat → Int
  | 0 => 0
  | m + 1 => pvl xs i q m + dg xs i (16 * q + m) * 16 ^ m
def pv (xs : List Int) (q : Int) : Int := pvl xs xs.length q.toNat 16
theorem dg_r {xs : List Int} (h : Ls xs) {i : Nat} (hi : i ≤ xs.length) (k : Nat) : 0 ≤ dg xs i k ∧ dg xs i k ≤ 12 := by
  unfold dg
  split
  · have hk : k < xs.length := by omega
    have : xs.getD k 0 ∈ xs := by
      rw [List.getD_eq_getElem?_getD, List.getElem?_eq_getElem hk]
      exact List.getElem_mem hk
    have := h _ this
    omega
  · omega
theorem p16_pos (m : Nat) : (0 : Int) < 16 ^ m := Int.pow_pos (by decide)
theorem p16_2 (m : Nat) : (16 : Int) ^ m = 2 ^ (4 * m) := by
  rw [Int.pow_mul]
  rfl
theorem pvl_r {xs : List Int} (h : Ls xs) {i : Nat} (hi : i ≤ xs.length) (q : Nat) : ∀ m, 0 ≤ pvl xs i q m ∧ pvl xs i q m < 16 ^ m := by
  intro m
  induction m with
  | zero => exact ⟨Int.le_refl 0, show (0 : Int) < 1 by decide⟩
  | succ m ih =>
    have hd := dg_r h hi (16 * q + m)
    have hp := p16_pos m
    have e : (16 : Int) ^ (m + 1) = 16 ^ m * 16 := Int.pow_succ ..
    have h1 : 0 ≤ dg xs i (16 * q + m) * 16 ^ m := Int.mul_nonneg hd.1 (by omega)
    have h2 : dg xs i (16 * q + m) * 16 ^ m ≤ 12 * 16 ^ m := Int.mul_le_mul_of_nonneg_right hd.2 (by omega)
    unfold pvl
    rw [e]
    omega
theorem pv_r {xs : List Int} (h : Ls xs) (q : Int) : 0 ≤ pv xs q ∧ pv xs q < 18446744073709551616 := by
  have := pvl_r h (Nat.le_refl _) q.toNat 16
  unfold pv
  exact ⟨this.1, by have e : (16 : Int) ^ 16 = 18446744073709551616 := by decide
                    rw [e] at this; exact this.2⟩
/-- one letter more: in its own long it comes above those that are there, in the others nothing changes -/
theorem pvl_other {xs : List Int} {i q : Nat} (hq : q ≠ i / 16) : ∀ m, m ≤ 16 → pvl xs (i + 1) q m = pvl xs i q m := by
  intro m
  induction m with
  | zero => intro _; rfl
  | succ m ih =>
    intro hm
    unfold pvl
    rw [ih (by omega)]
    congr 2
    unfold dg
    by_cases h : 16 * q + m < i
    · rw [if_pos h, if_pos (by omega)]
    · rw [if_neg h, if_neg (by omega)]
theorem pvl_low {xs : List Int} {i q : Nat} (hq : q = i / 16) : ∀ m, m ≤ i % 16 → pvl xs (i + 1) q m = pvl xs i q m := by
  intro m
  induction m with
  | zero => intro _; rfl
  | succ m ih =>
    intro hm
    unfold pvl
    rw [ih (by omega)]
    congr 2
    unfold dg
    by_cases h : 16 * q + m < i
    · rw [if_pos h, if_pos (by omega)]
    · omega
theorem pvl_high {xs : List Int} {i q k : Nat} : ∀ m, k ≤ m → i ≤ 16 * q + k → pvl xs i q m = pvl xs i q k := by
  intro m
  induction m with
  | zero => intro h _; have : k = 0 := by omega
            subst this; rfl
  | succ m ih =>
    intro h hi
    by_cases e : k = m + 1
    · subst e; rfl
    · rw [show pvl xs i q (m + 1) = pvl xs i q m + dg xs i (16 * q + m) * 16 ^ m from rfl, ih (by omega) hi, show dg xs i (16 * q + m) = 0 from if_neg (by omega), Int.zero_mul, Int.add_zero]
theorem pvl_step {xs : List Int} {i q : Nat} (hq : q = i / 16) : pvl xs (i + 1) q 16 = pvl xs i q 16 + (xs.getD i 0 + 1) * 16 ^ (i % 16) ∧ pvl xs i q 16 = pvl xs i q (i % 16) := by
  have h1 : pvl xs i q 16 = pvl xs i q (i % 16) := pvl_high 16 (by omega) (by omega)
  have h2 : pvl xs (i + 1) q 16 = pvl xs (i + 1) q (i % 16 + 1) := pvl_high 16 (by omega) (by omega)
  refine ⟨?_, h1⟩
  rw [h2, h1]
  show pvl xs (i + 1) q (i % 16) + dg xs (i + 1) (16 * q + i % 16) * 16 ^ (i % 16) = _
  rw [pvl_low hq _ (Nat.le_refl _)]
  unfold dg
  rw [if_pos (by omega), show 16 * q + i % 16 = i by omega]
theorem pvl_or {xs : List Int} (h : Ls xs) {i : Nat} (hi : i < xs.length) : zor (pvl xs i (i / 16) 16) ((xs.getD i 0 + 1) * 2 ^ (4 * (i % 16))) = pvl xs (i + 1) (i / 16) 16 := by
  have hs := pvl_step (xs := xs) (i := i) rfl
  have hr := pvl_r h (Nat.le_of_lt hi) (i / 16) (i % 16)
  have hd := dg_r h (Nat.succ_le_of_lt hi) i
  unfold dg at hd
  rw [if_pos (Nat.lt_succ_self i)] at hd
  rw [hs.1, hs.2, p16_2, zor_add hr.1 (by rw [← p16_2]; exact hr.2) hd.1]
/-- a letter is read back -/
theorem pvl_dig {xs : List Int} (h : Ls xs) {i : Nat} (hi : i ≤ xs.length) (q : Nat) : ∀ m j, j < m → pvl xs i q m / 16 ^ j % 16 = dg xs i (16 * q + j) := by
  intro m
  induction m with
  | zero => intro j hj; omega
  | succ m ih =>
    intro j hj
    have hp := p16_pos m
    have hpj := p16_pos j
    have hd := dg_r h hi (16 * q + m)
    have hr := pvl_r h hi q m
    unfold pvl
    by_cases e : j = m
    · subst e
      rw [Int.add_mul_ediv_right _ _ (by omega), Int.ediv_eq_zero_of_lt hr.1 hr.2, Int.zero_add, Int.emod_eq_of_lt hd.1 (by omega)]
    · have hjm : j < m := by omega
      rw [← ih j hjm]
      have e2 : (16 : Int) ^ m = 16 ^ (m - j - 1) * 16 * 16 ^ j := by
        rw [Int.mul_assoc, ← Int.pow_succ', ← Int.pow_add]
        congr 1
        omega
      rw [e2, ← Int.mul_assoc, ← Int.mul_assoc, Int.add_mul_ediv_right _ _ (by omega), Int.add_mul_emod_self_right]
theorem pv_dig {xs : List Int} (h : Ls xs) (i : Nat) : pv xs (i / 16 : Nat) / 2 ^ (4 * (i % 16)) % 16 = dg xs xs.length i := by
  unfold pv
  rw [← p16_2, pvl_dig h (Nat.le_refl _) _ 16 (i % 16) (by omega), Int.toNat_natCast, show 16 * (i / 16) + i % 16 = i by omega]
theorem pv_inj {xs ys : List Int} (hx : Ls xs) (hy : Ls ys) (lx : xs.length ≤ 128) (ly : ys.length ≤ 128) (h : ∀ q : Int, 0 ≤ q → q < 8 → pv xs q = pv ys q) : xs = ys := by
  have hd : ∀ i, i < 128 → dg xs xs.length i = dg ys ys.length i := by
    intro i hi
    rw [← pv_dig hx, ← pv_dig hy, h _ (by omega) (by omega)]
  have key : ∀ {as bs : List Int}, Ls as → Ls bs → bs.length ≤ 128 → (∀ i, i < 128 → dg as as.length i = dg bs bs.length i) → bs.length ≤ as.length := by
    intro as bs ha hb lb hd
    rcases Nat.lt_or_ge as.length bs.length with q | q
    · have := hd as.length (by omega)
      unfold dg at this
      rw [if_neg (by omega), if_pos q] at this
      have hm : bs.getD as.length 0 ∈ bs := by
        rw [List.getD_eq_getElem?_getD, List.getElem?_eq_getElem q]
        exact List.getElem_mem q
      have := hb _ hm
      omega
    · exact q
  have l1 := key hx hy ly hd
  have l2 := key hy hx lx (fun i hi => (hd i hi).symm)
  apply List.ext_getElem (by omega)
  intro i h1 h2
  have := hd i (by omega)
  unfold dg at this
  rw [if_pos h1, if_pos h2, List.getD_eq_getElem?_getD, List.getD_eq_getElem?_getD, List.getElem?_eq_getElem h1, List.getElem?_eq_getElem h2] at this
  simpa using this
section ZP
variable {G : zG} {M : zM} {B : Room × Nat × Nat} {Q : List Frame → Array Value → State → State → Prop} {pc n : Nat} {L : List (Option zV)} {stk : List zV} {st : zS}
/-- a shift of a long that is told without its sign; its lowest four bits -/
theorem z_lshrU {a j : Int} (hd : decode M.2.1 pc = .ok (.lshr, 1)) (hn : pc + 1 = n) (h0 : 0 ≤ a) (h1 : a < 18446744073709551616) (h2 : 0 ≤ j) (h3 : j ≤ 60) (kk : ∀ b, b % 16 = a / 2 ^ j.toNat % 16 → zW G M B Q n L (zL b :: stk) st) : zW G M B Q pc L (zI j :: zL a :: stk) st := by
  by_cases hs : a < 9223372036854775808
  · exact z_lshr hd hn ⟨by omega, hs⟩ h2 (by omega) (kk _ rfl)
  · have e : Int64.ofInt a = Int64.ofInt (a - 18446744073709551616) := by
      apply Int64.toBitVec.inj
      rw [Int64.toBitVec_ofInt, Int64.toBitVec_ofInt]
      apply BitVec.eq_of_toNat_eq
      rw [BitVec.toNat_ofInt, BitVec.toNat_ofInt]
      simp only [Nat.reducePow, Int.cast_ofNat_Int]
      omega
    have hk := z_lshr (G := G) (B := B) (Q := Q) (L := L) (stk := stk) (st := st) (a := a - 18446744073709551616) hd hn ⟨by omega, by omega⟩ h2 (by omega) (kk _ ?_)
    · intro p l e' s m args below meth c H locs ls F J P S hl
      have := hk p l e' s m args below meth c H locs ls F J P S hl
      simp only [List.map_cons, zc] at this ⊢
      rw [e]
      exact this
    · obtain ⟨x, rfl⟩ := Int.eq_ofNat_of_zero_le h2
      simp only [Int.toNat_natCast]
      have hp := p2_pos x
      have e2 : (18446744073709551616 : Int) = 2 ^ (60 - x) * 16 * 2 ^ x := by
        rw [Int.mul_assoc, Int.mul_comm 16, ← Int.mul_assoc, ← Int.pow_add, show 60 - x + x = 60 by omega]
        decide
      have e3 : a - 18446744073709551616 = a + (-(2 ^ (60 - x) * 16)) * 2 ^ x := by
        rw [Int.neg_mul, ← e2]; rfl
      rw [e3, Int.add_mul_ediv_right _ _ (by omega)]
      have e4 : a / 2 ^ x + -(2 ^ (60 - x) * 16) = a / 2 ^ x + (-(2 ^ (60 - x))) * 16 := by rw [Int.neg_mul]
      rw [e4, Int.add_mul_emod_self_right]
end ZP
/-! words that are gone through -/
def addW (fs : List (List Int)) (w : List Int) : List (List Int) := if fs.length > 40 then fs else if w ∈ fs then fs else fs ++ [w]
def bfs (kd nx : Int → Int) : Nat → List (List Int) → Nat → Int
  | 0, fs, _ => if fs.length > 40 then -1 else 1
  | m + 1, fs, i => if i < fs.length then (if fps kd (fs.getD i []) 0 = 1 then 0 else bfs kd nx m (addW (addW fs (sec kd nx (fs.getD i []) 0)) (sec kd nx (fs.getD i []) 1)) (i + 1)) else (if fs.length > 40 then -1 else 1)
/-- whether a word is nothing -/
def ntw (kd nx : Int → Int) (w : List Int) : Int := bfs kd nx 40 [w] 0
def Wok (n : Int) (fs : List (List Int)) : Prop := fs.length ≤ 41 ∧ ∀ w ∈ fs, Lt n w ∧ w.length ≤ 128
theorem Wok.add {n : Int} {fs : List (List Int)} {w : List Int} (h : Wok n fs) (h1 : Lt n w) (h2 : w.length ≤ 128) : Wok n (addW fs w) := by
  unfold addW
  split
  · exact h
  · split
    · exact h
    · refine ⟨by simp; omega, fun v hv => ?_⟩
      rcases List.mem_append.mp hv with hv | hv
      · exact h.2 v hv
      · rw [List.mem_singleton.mp hv]; exact ⟨h1, h2⟩
theorem bfs_r (kd nx : Int → Int) : ∀ (m : Nat) (fs : List (List Int)) (i : Nat), -1 ≤ bfs kd nx m fs i ∧ bfs kd nx m fs i ≤ 1 := by
  intro m
  induction m with
  | zero => intro fs i; unfold bfs; split <;> decide
  | succ m ih =>
    intro fs i
    unfold bfs
    split
    · split
      · decide
      · exact ih _ _
    · split <;> decide
theorem getD_mem {fs : List (List Int)} {i : Nat} (h : i < fs.length) : fs.getD i [] ∈ fs := by
  rw [List.getD_eq_getElem?_getD, List.getElem?_eq_getElem h]
  exact List.getElem_mem h
theorem bfs_go {kd nx : Int → Int} {m i : Nat} {fs : List (List Int)} (h1 : i < fs.length) (h2 : ¬ fps kd (fs.getD i []) 0 = 1) : bfs kd nx (m + 1) fs i = bfs kd nx m (addW (addW fs (sec kd nx (fs.getD i []) 0)) (sec kd nx (fs.getD i []) 1)) (i + 1) := by
  rw [bfs, if_pos h1, if_neg h2]
