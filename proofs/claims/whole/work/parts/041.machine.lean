/-! what states do: n STATES, kd their kinds, nx their nexts -/
theorem zor_lt {a b : Int} {k : Nat} (ha : 0 ≤ a) (hb : 0 ≤ b) (h1 : a < 2 ^ k) (h2 : b < 2 ^ k) : zor a b < 2 ^ k := by
  obtain ⟨x, rfl⟩ := Int.eq_ofNat_of_zero_le ha
  obtain ⟨y, rfl⟩ := Int.eq_ofNat_of_zero_le hb
  unfold zor
  have e1 : x < 2 ^ k := by exact_mod_cast h1
  have e2 : y < 2 ^ k := by exact_mod_cast h2
  have := Nat.or_lt_two_pow e1 e2
  exact_mod_cast this
theorem zor_zero {a : Int} (ha : 0 ≤ a) : zor a 0 = a := by
  obtain ⟨x, rfl⟩ := Int.eq_ofNat_of_zero_le ha
  simp [zor]
abbrev fl (kd : Int → Int) (s : Int) : Prop := kd s = 1 ∨ kd s = 2 ∨ kd s = 4
def gon (kd nx : Int → Int) (s w : Int) : Int := if kd s = 0 ∨ kd s = 1 then nx (2 * s + w) else if kd s = 2 then nx (2 * s + (1 - w)) else -1
/-- a machine as it must be -/
def MOK (n : Int) (kd nx : Int → Int) : Prop := 0 ≤ n ∧ n ≤ 6 ∧ (∀ s, 0 ≤ s → s < n → 0 ≤ kd s ∧ kd s ≤ 4) ∧ (∀ j, 0 ≤ j → j < 2 * n → -1 ≤ nx j ∧ nx j < n)
theorem MOK.go {n : Int} {kd nx : Int → Int} (h : MOK n kd nx) {s w : Int} (h0 : 0 ≤ s) (h1 : s < n) (h2 : 0 ≤ w) (h3 : w ≤ 1) : -1 ≤ gon kd nx s w ∧ gon kd nx s w < n := by
  have a := h.2.2.2 (2 * s + w) (by omega) (by omega)
  have b := h.2.2.2 (2 * s + (1 - w)) (by omega) (by omega)
  unfold gon
  split
  · exact a
  · split
    · exact b
    · omega
def bitS (t : Int) : Int := if 0 ≤ t then 2 ^ t.toNat else 0
theorem bitS_0 (t : Int) : 0 ≤ bitS t := by
  unfold bitS
  split
  · exact Int.le_of_lt (Int.pow_pos (by decide))
  · omega
theorem bitS_lt {t : Int} (h : t < 6) : bitS t < 2 ^ 6 := by
  unfold bitS
  split
  · have h2 : t.toNat < 6 := by omega
    have : ∀ k, k < 6 → (2 : Int) ^ k < 2 ^ 6 := by decide
    exact this _ h2
  · decide
def nxs (kd nx : Int → Int) (s : Int) : Int := zor (zor 0 (bitS (gon kd nx s 0))) (bitS (gon kd nx s 1))
theorem nxs_r {n : Int} {kd nx : Int → Int} (h : MOK n kd nx) {s : Int} (h0 : 0 ≤ s) (h1 : s < n) : 0 ≤ nxs kd nx s ∧ nxs kd nx s < 2 ^ 6 := by
  have a := h.go h0 h1 (w := 0) (by omega) (by omega)
  have b := h.go h0 h1 (w := 1) (by omega) (by omega)
  have hn := h.2.1
  refine ⟨zor_0 _ _, zor_lt (zor_0 _ _) (bitS_0 _) (zor_lt (by decide) (bitS_0 _) (by decide) (bitS_lt (by omega))) (bitS_lt (by omega))⟩
/-- reach: one round through the first m states; rounds -/
def rIn (kd nx : Int → Int) : Nat → Int → Int
  | 0, r => r
  | m + 1, r => if rIn kd nx m r / 2 ^ m % 2 = 1 then zor (rIn kd nx m r) (nxs kd nx m) else rIn kd nx m r
def rOut (kd nx : Int → Int) (n : Nat) : Nat → Int → Int
  | 0, r => r
  | i + 1, r => rIn kd nx n (rOut kd nx n i r)
def rch (kd nx : Int → Int) (n s : Int) : Int := rOut kd nx n.toNat 6 (nxs kd nx s)
theorem rIn_r {n : Int} {kd nx : Int → Int} (h : MOK n kd nx) : ∀ (m : Nat) (r : Int), (m : Int) ≤ n → 0 ≤ r → r < 2 ^ 6 → 0 ≤ rIn kd nx m r ∧ rIn kd nx m r < 2 ^ 6 := by
  intro m
  induction m with
  | zero => intro r _ h0 h1; exact ⟨h0, h1⟩
  | succ m ih =>
    intro r hm h0 h1
    have a := ih r (by omega) h0 h1
    have b := nxs_r h (s := m) (by omega) (by omega)
    unfold rIn
    split
    · exact ⟨zor_0 _ _, zor_lt a.1 b.1 a.2 b.2⟩
    · exact a
theorem rOut_r {n : Int} {kd nx : Int → Int} (h : MOK n kd nx) : ∀ (i : Nat) (r : Int), 0 ≤ r → r < 2 ^ 6 → 0 ≤ rOut kd nx n.toNat i r ∧ rOut kd nx n.toNat i r < 2 ^ 6 := by
  intro i
  induction i with
  | zero => intro r h0 h1; exact ⟨h0, h1⟩
  | succ i ih =>
    intro r h0 h1
    have a := ih r h0 h1
    exact rIn_r h _ _ (by have := h.1; omega) a.1 a.2
theorem rch_r {n : Int} {kd nx : Int → Int} (h : MOK n kd nx) {s : Int} (h0 : 0 ≤ s) (h1 : s < n) : 0 ≤ rch kd nx n s ∧ rch kd nx n s < 2 ^ 6 := by
  have b := nxs_r h h0 h1
  exact rOut_r h 6 _ b.1 b.2
def inC (kd nx : Int → Int) (n s : Int) : Prop := rch kd nx n s / 2 ^ s.toNat % 2 = 1
/-- how many of the first m are in the core -/
noncomputable def cnt (p : Int → Prop) : Nat → Int
  | 0 => 0
  | m + 1 => cnt p m + zb (p m)
theorem cnt_r (p : Int → Prop) (m : Nat) : 0 ≤ cnt p m ∧ cnt p m ≤ m := by
  induction m with
  | zero => exact ⟨Int.le_refl 0, Int.le_refl 0⟩
  | succ m ih =>
    have := zb_r (p m)
    unfold cnt
    omega
/-- the letter that does the rest behind a letter -/
def lb (kd nx : Int → Int) (l b : Int) : Int :=
  let w := if l % 2 = 1 ∧ fl kd (l / 2) then 1 - b else b
  if gon kd nx (l / 2) w = -1 then -1 else 2 * gon kd nx (l / 2) w + l % 2
theorem lb_r {n : Int} {kd nx : Int → Int} (h : MOK n kd nx) {l b : Int} (h0 : 0 ≤ l) (h1 : l < 2 * n) (h2 : 0 ≤ b) (h3 : b ≤ 1) : -1 ≤ lb kd nx l b ∧ lb kd nx l b < 2 * n := by
  have key : ∀ w, 0 ≤ w → w ≤ 1 → -1 ≤ (if gon kd nx (l / 2) w = -1 then -1 else 2 * gon kd nx (l / 2) w + l % 2) ∧ (if gon kd nx (l / 2) w = -1 then -1 else 2 * gon kd nx (l / 2) w + l % 2) < 2 * n := by
    intro w a b
    have := h.go (s := l / 2) (w := w) (by omega) (by omega) a b
    split <;> omega
  unfold lb
  by_cases hc : l % 2 = 1 ∧ fl kd (l / 2)
  · simp only [if_pos hc]; exact key _ (by omega) (by omega)
  · simp only [if_neg hc]; exact key _ (by omega) (by omega)
/-- a sign behind a state -/
def fb (kd : Int → Int) (s b : Int) : Int := if fl kd s then 1 - b else b
theorem fb_r {kd : Int → Int} {s b : Int} (h0 : 0 ≤ b) (h1 : b ≤ 1) : 0 ≤ fb kd s b ∧ fb kd s b ≤ 1 := by
  unfold fb
  split <;> omega
/-- what becomes of the last k signs of a row by a letter -/
def rl (kd nx : Int → Int) : Nat → Int → Int → Int
  | 0, _, x => x
  | k + 1, l, x => if l = -1 then x else fb kd (l / 2) (x / 2 ^ k) * 2 ^ k + rl kd nx k (lb kd nx l (x / 2 ^ k)) (x % 2 ^ k)
theorem p2_pos (k : Nat) : (0 : Int) < 2 ^ k := Int.pow_pos (by decide)
theorem p2_succ (k : Nat) : (2 : Int) ^ (k + 1) = 2 ^ k * 2 := Int.pow_succ ..
theorem half_r {x : Int} {k : Nat} (h0 : 0 ≤ x) (h1 : x < 2 ^ (k + 1)) : 0 ≤ x / 2 ^ k ∧ x / 2 ^ k ≤ 1 := by
  have hp := p2_pos k
  rw [p2_succ] at h1
  have h2 : x / 2 ^ k < 2 := Int.ediv_lt_of_lt_mul hp (by omega)
  exact ⟨Int.ediv_nonneg h0 (by omega), by omega⟩
theorem rl_r (kd nx : Int → Int) : ∀ (k : Nat) (l x : Int), 0 ≤ x → x < 2 ^ k → 0 ≤ rl kd nx k l x ∧ rl kd nx k l x < 2 ^ k := by
  intro k
  induction k with
  | zero => intro l x h0 h1; exact ⟨h0, h1⟩
  | succ k ih =>
    intro l x h0 h1
    unfold rl
    split
    · exact ⟨h0, h1⟩
    · have hp := p2_pos k
      have hb := half_r h0 h1
      have hf := fb_r (kd := kd) (s := l / 2) hb.1 hb.2
      have hm := ih (lb kd nx l (x / 2 ^ k)) (x % 2 ^ k) (Int.emod_nonneg _ (by omega)) (Int.emod_lt_of_pos _ hp)
      rw [p2_succ]
      have hff : fb kd (l / 2) (x / 2 ^ k) = 0 ∨ fb kd (l / 2) (x / 2 ^ k) = 1 := by omega
      rcases hff with e | e <;> rw [e] <;> omega
theorem rl_none (kd nx : Int → Int) (k : Nat) (x : Int) : rl kd nx k (-1) x = x := by
  cases k with
  | zero => rfl
  | succ k => unfold rl; rw [if_pos rfl]
def rwd (kd nx : Int → Int) (k : Nat) (xs : List Int) (x : Int) : Int := xs.foldl (fun r l => rl kd nx k l r) x
theorem rwd_r (kd nx : Int → Int) (k : Nat) : ∀ (xs : List Int) (x : Int), 0 ≤ x → x < 2 ^ k → 0 ≤ rwd kd nx k xs x ∧ rwd kd nx k xs x < 2 ^ k := by
  intro xs
  induction xs with
  | nil => intro x h0 h1; exact ⟨h0, h1⟩
  | cons a t ih =>
    intro x h0 h1
    have := rl_r kd nx k a x h0 h1
    exact ih _ this.1 this.2
/-- a bit is flipped -/
theorem zxor_bit {a : Int} (h : 0 ≤ a) (k : Nat) : zxor a (2 ^ k) = inv (a / 2 ^ k) * 2 ^ k + a % 2 ^ k := by
  obtain ⟨x, rfl⟩ := Int.eq_ofNat_of_zero_le h
  have e1 : ((2 : Int) ^ k).toNat = 2 ^ k := by
    have : ((2 ^ k : Nat) : Int) = (2 : Int) ^ k := by simp
    rw [← this]; rfl
  have e2 : ((x : Int) / 2 ^ k) = ((x / 2 ^ k : Nat) : Int) := by simp
  have e3 : ((x : Int) % 2 ^ k) = ((x % 2 ^ k : Nat) : Int) := by simp
  rw [e2, e3]
  unfold inv zxor
  rw [e1]
  have e4 : (((x / 2 ^ k : Nat) : Int).toNat ^^^ (1 : Int).toNat) = (x / 2 ^ k) ^^^ 1 := rfl
  rw [e4]
  have e5 : ((x : Int).toNat ^^^ 2 ^ k) = (x ^^^ 2 ^ k) := rfl
  rw [e5]
  have hp : 0 < 2 ^ k := Nat.two_pow_pos k
  have e6 : (x ^^^ 2 ^ k) / 2 ^ k = (x / 2 ^ k) ^^^ 1 := by
    rw [Nat.xor_div_two_pow, Nat.div_self hp]
  have e7 : (x ^^^ 2 ^ k) % 2 ^ k = x % 2 ^ k := by
    rw [Nat.xor_mod_two_pow, Nat.mod_self, Nat.xor_zero]
  have e8 := Nat.div_add_mod (x ^^^ 2 ^ k) (2 ^ k)
  rw [e6, e7] at e8
  have e9 : (((x ^^^ 2 ^ k : Nat)) : Int) = ((2 ^ k * ((x / 2 ^ k) ^^^ 1) + x % 2 ^ k : Nat) : Int) := by rw [e8]
  rw [e9]
  simp [Int.mul_comm]
/-- the highest of the last signs, and that it flips -/
theorem sg_bit {hi x : Int} {k : Nat} (h0 : 0 ≤ x) (h1 : x < 2 ^ (k + 1)) (hh : 0 ≤ hi) : (hi * 2 ^ (k + 1) + x) / 2 ^ k % 2 = x / 2 ^ k := by
  have hp := p2_pos k
  have hb := half_r h0 h1
  have e : (hi * 2 ^ (k + 1) + x) / 2 ^ k = hi * 2 + x / 2 ^ k := by
    rw [p2_succ, show hi * (2 ^ k * 2) + x = x + (hi * 2) * 2 ^ k by rw [Int.mul_comm (2 ^ k) 2, ← Int.mul_assoc, Int.add_comm], Int.add_mul_ediv_right _ _ (by omega), Int.add_comm]
  rw [e]
  omega
theorem sg_flip {hi x : Int} {k : Nat} (h0 : 0 ≤ x) (h1 : x < 2 ^ (k + 1)) (hh : 0 ≤ hi) : zxor (hi * 2 ^ (k + 1) + x) (2 ^ k) = (hi * 2 + (1 - x / 2 ^ k)) * 2 ^ k + x % 2 ^ k := by
  have hp := p2_pos k
  have hb := half_r h0 h1
  have hn : 0 ≤ hi * 2 ^ (k + 1) + x := Int.add_nonneg (Int.mul_nonneg hh (Int.le_of_lt (p2_pos _))) h0
  have e : (hi * 2 ^ (k + 1) + x) / 2 ^ k = hi * 2 + x / 2 ^ k := by
    rw [p2_succ, show hi * (2 ^ k * 2) + x = x + (hi * 2) * 2 ^ k by rw [Int.mul_comm (2 ^ k) 2, ← Int.mul_assoc, Int.add_comm], Int.add_mul_ediv_right _ _ (by omega), Int.add_comm]
  have e2 : (hi * 2 ^ (k + 1) + x) % 2 ^ k = x % 2 ^ k := by
    rw [p2_succ, show hi * (2 ^ k * 2) + x = x + (hi * 2) * 2 ^ k by rw [Int.mul_comm (2 ^ k) 2, ← Int.mul_assoc, Int.add_comm], Int.add_mul_emod_self_right]
  rw [zxor_bit hn, e, e2, inv_val (by omega)]
  have hx : x / 2 ^ k = 0 ∨ x / 2 ^ k = 1 := by omega
  rcases hx with q | q <;> rw [q]
  · rw [if_pos (by omega), show hi * 2 + 0 + 1 = hi * 2 + (1 - 0) by omega]
  · rw [if_neg (by omega), show hi * 2 + 1 - 1 = hi * 2 + (1 - 1) by omega]
theorem sg_stay {hi x : Int} {k : Nat} : hi * 2 ^ (k + 1) + x = (hi * 2 + x / 2 ^ k) * 2 ^ k + x % 2 ^ k := by
  have h := Int.mul_ediv_add_emod x (2 ^ k)
  rw [p2_succ, Int.add_mul, Int.mul_assoc, Int.mul_comm 2 (2 ^ k), Int.mul_comm (x / 2 ^ k) (2 ^ k), Int.add_assoc, h]
theorem lb_w {kd nx : Int → Int} {l b w : Int} (hw : w = if l % 2 = 1 ∧ fl kd (l / 2) then 1 - b else b) : lb kd nx l b = if gon kd nx (l / 2) w = -1 then -1 else 2 * gon kd nx (l / 2) w + l % 2 := by
  subst hw; rfl
theorem zb_mod (l : Int) : zb (l % 2 = 1) = l % 2 := by
  by_cases h : l % 2 = 1
  · rw [zb_t h, h]
  · rw [zb_f h]; omega
/-- the sign behind a word -/
def fps (kd : Int → Int) (xs : List Int) (b : Int) : Int := xs.foldl (fun b l => fb kd (l / 2) b) b
theorem fps_r (kd : Int → Int) : ∀ (xs : List Int) (b : Int), 0 ≤ b → b ≤ 1 → 0 ≤ fps kd xs b ∧ fps kd xs b ≤ 1 := by
  intro xs
  induction xs with
  | nil => intro b h0 h1; exact ⟨h0, h1⟩
  | cons a t ih =>
    intro b h0 h1
    have := fb_r (kd := kd) (s := a / 2) h0 h1
    exact ih _ this.1 this.2
/-- letters of n states -/
def Lt (n : Int) (xs : List Int) : Prop := ∀ y ∈ xs, 0 ≤ y ∧ y < 2 * n
theorem Lt.Ls {n : Int} {xs : List Int} (h : Lt n xs) (hn : n ≤ 6) : Ls xs := fun y hy => by have := h y hy; omega
theorem Lt.nil {n : Int} : Lt n [] := fun y h => by cases h
theorem Lt.rd {n : Int} {xs : List Int} {l : Int} (h : Lt n xs) (h0 : 0 ≤ l) (h1 : l < 2 * n) : Lt n (red xs l) := by
  intro y hy
  unfold red at hy
  split at hy
  · exact h y ((List.dropLast_sublist xs).subset hy)
  · rcases List.mem_append.mp hy with hy | hy
    · exact h y hy
    · rw [List.mem_singleton.mp hy]; exact ⟨h0, h1⟩
theorem Lt.fold {n : Int} {ls : List Int} (h2 : Lt n ls) : ∀ {xs : List Int}, Lt n xs → Lt n (ls.foldl red xs) := by
  induction ls with
  | nil => intro xs h; exact h
  | cons a t ih =>
    intro xs h
    have ha := h2 a List.mem_cons_self
    exact ih (fun y hy => h2 y (List.mem_cons_of_mem _ hy)) (h.rd ha.1 ha.2)
theorem Lt.un {n : Int} {ys : List Int} (h : Lt n ys) : Lt n (undone ys) := by
  intro y hy
  simp only [undone, List.mem_reverse, List.mem_map] at hy
  obtain ⟨z, hz, rfl⟩ := hy
  have := h z hz
  exact ⟨inv_0 this.1, inv_lt this.1 this.2⟩
/-- a section -/
def sec1 (kd nx : Int → Int) (a : List Int × Int) (l : Int) : List Int × Int := (if lb kd nx l a.2 = -1 then a.1 else red a.1 (lb kd nx l a.2), fb kd (l / 2) a.2)
def sec (kd nx : Int → Int) (xs : List Int) (b : Int) : List Int := (xs.foldl (sec1 kd nx) ([], b)).1
theorem sec1_ok {n : Int} {kd nx : Int → Int} (hM : MOK n kd nx) {acc : List Int} {b l : Int} (hA : Lt n acc) (h0 : 0 ≤ b) (h1 : b ≤ 1) (hl0 : 0 ≤ l) (hl1 : l < 2 * n) : Lt n (sec1 kd nx (acc, b) l).1 ∧ 0 ≤ (sec1 kd nx (acc, b) l).2 ∧ (sec1 kd nx (acc, b) l).2 ≤ 1 ∧ (sec1 kd nx (acc, b) l).1.length ≤ acc.length + 1 := by
  have hf := fb_r (kd := kd) (s := l / 2) h0 h1
  have hb := lb_r hM hl0 hl1 h0 h1
  refine ⟨?_, hf.1, hf.2, ?_⟩
  · unfold sec1
    dsimp only
    split
    · exact hA
    · exact hA.rd (by omega) hb.2
  · unfold sec1
    dsimp only
    split
    · omega
    · exact red_len _ _
theorem sec_fold_ok {n : Int} {kd nx : Int → Int} (hM : MOK n kd nx) : ∀ (xs acc : List Int) (b : Int), Lt n xs → Lt n acc → 0 ≤ b → b ≤ 1 → Lt n (xs.foldl (sec1 kd nx) (acc, b)).1 ∧ (xs.foldl (sec1 kd nx) (acc, b)).1.length ≤ acc.length + xs.length := by
  intro xs
  induction xs with
  | nil => intro acc b _ hA _ _; exact ⟨hA, by simp⟩
  | cons a t ih =>
    intro acc b hx hA h0 h1
    have ha := hx a List.mem_cons_self
    have := sec1_ok hM hA h0 h1 ha.1 ha.2
    have h2 := ih (sec1 kd nx (acc, b) a).1 (sec1 kd nx (acc, b) a).2 (fun y hy => hx y (List.mem_cons_of_mem _ hy)) this.1 this.2.1 this.2.2.1
    refine ⟨h2.1, ?_⟩
    have h3 := h2.2
    simp only [List.foldl_cons, List.length_cons]
    have e : sec1 kd nx (acc, b) a = ((sec1 kd nx (acc, b) a).1, (sec1 kd nx (acc, b) a).2) := rfl
    rw [e]
    omega
theorem sec_ok {n : Int} {kd nx : Int → Int} (hM : MOK n kd nx) {xs : List Int} {b : Int} (hx : Lt n xs) (h0 : 0 ≤ b) (h1 : b ≤ 1) : Lt n (sec kd nx xs b) ∧ (sec kd nx xs b).length ≤ xs.length := by
  have := sec_fold_ok hM xs [] b hx Lt.nil h0 h1
  exact ⟨this.1, by have h2 := this.2; simp only [List.length_nil, Nat.zero_add] at h2; exact h2⟩
theorem Fr.pl {j : Nat} {sz sz' : zSz} {ar ar' : zAr} (h : Fr j sz ar sz' ar') (hj : isL j) : sz' 3 = sz 3 ∧ ar' 4 = ar 4 ∧ ar' 5 = ar 5 := by
  have h1 : (3 : Nat) ≠ j ∧ (4 : Nat) ≠ j + 1 ∧ (5 : Nat) ≠ j + 1 := by unfold isL at hj; omega
  exact ⟨h.1 3 h1.1, h.2 4 h1.2.1, h.2 5 h1.2.2⟩
theorem rl_step {kd nx : Int → Int} {k : Nat} {l x hi : Int} (h : l ≠ -1) : hi * 2 ^ (k + 1) + rl kd nx (k + 1) l x = (hi * 2 + fb kd (l / 2) (x / 2 ^ k)) * 2 ^ k + rl kd nx k (lb kd nx l (x / 2 ^ k)) (x % 2 ^ k) := by
  rw [show rl kd nx (k + 1) l x = fb kd (l / 2) (x / 2 ^ k) * 2 ^ k + rl kd nx k (lb kd nx l (x / 2 ^ k)) (x % 2 ^ k) by rw [rl, if_neg h]]
  rw [p2_succ, Int.add_mul, Int.mul_assoc, Int.mul_comm 2 (2 ^ k), Int.add_assoc]
theorem zxor_zero {a : Int} (ha : 0 ≤ a) : zxor a 0 = a := by
  obtain ⟨x, rfl⟩ := Int.eq_ofNat_of_zero_le ha
  simp [zxor]
theorem hi_le {hi f : Int} {k : Nat} (h : (hi + 1) * 2 ^ (k + 1) ≤ 4096) (hf : f ≤ 1) : (hi * 2 + f + 1) * 2 ^ k ≤ 4096 := by
  have hp := p2_pos k
  have e : (hi + 1) * 2 ^ (k + 1) = (hi * 2 + 1 + 1) * 2 ^ k := by
    rw [p2_succ, Int.mul_comm (2 ^ k) 2, ← Int.mul_assoc]; congr 1; omega
  rw [e] at h
  exact Int.le_trans (Int.mul_le_mul_of_nonneg_right (by omega) (by omega)) h
theorem hi_lt {hi x : Int} {k : Nat} (h : (hi + 1) * 2 ^ k ≤ 4096) (hx : x < 2 ^ k) : hi * 2 ^ k + x < 4096 := by
  rw [Int.add_mul, Int.one_mul] at h
  omega
