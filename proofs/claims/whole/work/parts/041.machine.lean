/-! what states do: n STATES, kd their kinds, nx their nexts -/
theorem zor_lt {a b : Int} {k : Nat} (ha : 0 ≤ a) (hb : 0 ≤ b) (h1 : a < 2 ^ k) (h2 : b < 2 ^ k) : zor a b < 2 ^ k := by
  obtain ⟨x, rfl⟩ := Int.eq_ofNat_of_zero_le ha
  obtain ⟨y, rfl⟩ := Int.eq_ofNat_of_zero_le hb
  unfold zor
  have e1 : x < 2 ^ k := by exact_mod_cast h1
  have e2 : y < 2 ^ k := by exact_mod_cast h2
  have := Nat.or_lt_two_pow e1 e2
  exact_mod_cast this
theorem zor_zero {a : Int} (ha : 0 ≤ a) : zor a 0 = a := by
  obtain ⟨x, rfl⟩ := Int.eq_ofNat_of_zero_le ha
  simp [zor]
def fl (kd : Int → Int) (s : Int) : Prop := kd s = 1 ∨ kd s = 2 ∨ kd s = 4
def gon (kd nx : Int → Int) (s w : Int) : Int := if kd s = 0 ∨ kd s = 1 then nx (2 * s + w) else if kd s = 2 then nx (2 * s + (1 - w)) else -1
/-- a machine as it must be -/
def MOK (n : Int) (kd nx : Int → Int) : Prop := 0 ≤ n ∧ n ≤ 6 ∧ (∀ s, 0 ≤ s → s < n → 0 ≤ kd s ∧ kd s ≤ 4) ∧ (∀ j, 0 ≤ j → j < 2 * n → -1 ≤ nx j ∧ nx j < n)
theorem MOK.go {n : Int} {kd nx : Int → Int} (h : MOK n kd nx) {s w : Int} (h0 : 0 ≤ s) (h1 : s < n) (h2 : 0 ≤ w) (h3 : w ≤ 1) : -1 ≤ gon kd nx s w ∧ gon kd nx s w < n := by
  have a := h.2.2.2 (2 * s + w) (by omega) (by omega)
  have b := h.2.2.2 (2 * s + (1 - w)) (by omega) (by omega)
  unfold gon
  split
  · exact a
  · split
    · exact b
    · omega
def bitS (t : Int) : Int := if 0 ≤ t then 2 ^ t.toNat else 0
theorem bitS_0 (t : Int) : 0 ≤ bitS t := by
  unfold bitS
  split
  · exact Int.le_of_lt (Int.pow_pos (by decide))
  · omega
theorem bitS_lt {t : Int} (h : t < 6) : bitS t < 2 ^ 6 := by
  unfold bitS
  split
  · have h2 : t.toNat < 6 := by omega
    have : ∀ k, k < 6 → (2 : Int) ^ k < 2 ^ 6 := by decide
    exact this _ h2
  · decide
def nxs (kd nx : Int → Int) (s : Int) : Int := zor (zor 0 (bitS (gon kd nx s 0))) (bitS (gon kd nx s 1))
theorem nxs_r {n : Int} {kd nx : Int → Int} (h : MOK n kd nx) {s : Int} (h0 : 0 ≤ s) (h1 : s < n) : 0 ≤ nxs kd nx s ∧ nxs kd nx s < 2 ^ 6 := by
  have a := h.go h0 h1 (w := 0) (by omega) (by omega)
  have b := h.go h0 h1 (w := 1) (by omega) (by omega)
  have hn := h.2.1
  refine ⟨zor_0 _ _, zor_lt (zor_0 _ _) (bitS_0 _) (zor_lt (by decide) (bitS_0 _) (by decide) (bitS_lt (by omega))) (bitS_lt (by omega))⟩
/-- reach: one round through the first m states; rounds -/
def rIn (kd nx : Int → Int) : Nat → Int → Int
  | 0, r => r
  | m + 1, r => if rIn kd nx m r / 2 ^ m % 2 = 1 then zor (rIn kd nx m r) (nxs kd nx m) else rIn kd nx m r
def rOut (kd nx : Int → Int) (n : Nat) : Nat → Int → Int
  | 0, r => r
  | i + 1, r => rIn kd nx n (rOut kd nx n i r)
def rch (kd nx : Int → Int) (n s : Int) : Int := rOut kd nx n.toNat 6 (nxs kd nx s)
theorem rIn_r {n : Int} {kd nx : Int → Int} (h : MOK n kd nx) : ∀ (m : Nat) (r : Int), (m : Int) ≤ n → 0 ≤ r → r < 2 ^ 6 → 0 ≤ rIn kd nx m r ∧ rIn kd nx m r < 2 ^ 6 := by
  intro m
  induction m with
  | zero => intro r _ h0 h1; exact ⟨h0, h1⟩
  | succ m ih =>
    intro r hm h0 h1
    have a := ih r (by omega) h0 h1
    have b := nxs_r h (s := m) (by omega) (by omega)
    unfold rIn
    split
    · exact ⟨zor_0 _ _, zor_lt a.1 b.1 a.2 b.2⟩
    · exact a
theorem rOut_r {n : Int} {kd nx : Int → Int} (h : MOK n kd nx) : ∀ (i : Nat) (r : Int), 0 ≤ r → r < 2 ^ 6 → 0 ≤ rOut kd nx n.toNat i r ∧ rOut kd nx n.toNat i r < 2 ^ 6 := by
  intro i
  induction i with
  | zero => intro r h0 h1; exact ⟨h0, h1⟩
  | succ i ih =>
    intro r h0 h1
    have a := ih r h0 h1
    exact rIn_r h _ _ (by have := h.1; omega) a.1 a.2
theorem rch_r {n : Int} {kd nx : Int → Int} (h : MOK n kd nx) {s : Int} (h0 : 0 ≤ s) (h1 : s < n) : 0 ≤ rch kd nx n s ∧ rch kd nx n s < 2 ^ 6 := by
  have b := nxs_r h h0 h1
  exact rOut_r h 6 _ b.1 b.2
def inC (kd nx : Int → Int) (n s : Int) : Prop := rch kd nx n s / 2 ^ s.toNat % 2 = 1
/-- how many of the first m are in the core -/
noncomputable def cnt (p : Int → Prop) : Nat → Int
  | 0 => 0
  | m + 1 => cnt p m + zb (p m)
theorem cnt_r (p : Int → Prop) (m : Nat) : 0 ≤ cnt p m ∧ cnt p m ≤ m := by
  induction m with
  | zero => exact ⟨Int.le_refl 0, Int.le_refl 0⟩
  | succ m ih =>
    have := zb_r (p m)
    unfold cnt
    omega
/-- the letter that does the rest behind a letter -/
noncomputable def lb (kd nx : Int → Int) (l b : Int) : Int :=
  let w := @ite Int (l % 2 = 1 ∧ fl kd (l / 2)) (Classical.propDecidable _) (1 - b) b
  if gon kd nx (l / 2) w = -1 then -1 else 2 * gon kd nx (l / 2) w + l % 2
theorem lb_r {n : Int} {kd nx : Int → Int} (h : MOK n kd nx) {l b : Int} (h0 : 0 ≤ l) (h1 : l < 2 * n) (h2 : 0 ≤ b) (h3 : b ≤ 1) : -1 ≤ lb kd nx l b ∧ lb kd nx l b < 2 * n := by
  have key : ∀ w, 0 ≤ w → w ≤ 1 → -1 ≤ (if gon kd nx (l / 2) w = -1 then -1 else 2 * gon kd nx (l / 2) w + l % 2) ∧ (if gon kd nx (l / 2) w = -1 then -1 else 2 * gon kd nx (l / 2) w + l % 2) < 2 * n := by
    intro w a b
    have := h.go (s := l / 2) (w := w) (by omega) (by omega) a b
    split <;> omega
  unfold lb
  by_cases hc : l % 2 = 1 ∧ fl kd (l / 2)
  · simp only [if_pos hc]; exact key _ (by omega) (by omega)
  · simp only [if_neg hc]; exact key _ (by omega) (by omega)
