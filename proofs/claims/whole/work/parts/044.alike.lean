/-! states that are alike: by parting them round by round, and by rows -/
theorem zb_inj {p q : Prop} : zb p = zb q ↔ (p ↔ q) := by
  constructor
  · intro h
    constructor
    · intro hp; rw [zb_t hp] at h; exact zb_1.mp h.symm
    · intro hq; rw [zb_t hq] at h; exact zb_1.mp h
  · intro h; exact zb_iff h
/-- the first of j, j + 1, .. that is so, among the next m; else the one behind them -/
noncomputable def ffG (p : Int → Prop) : Nat → Int → Int
  | 0, j => j
  | m + 1, j => @ite Int (p j) (Classical.propDecidable _) j (ffG p m (j + 1))
theorem ffG_t {p : Int → Prop} {m : Nat} {j : Int} (h : p j) : ffG p (m + 1) j = j := if_pos h
theorem ffG_f {p : Int → Prop} {m : Nat} {j : Int} (h : ¬ p j) : ffG p (m + 1) j = ffG p m (j + 1) := if_neg h
theorem ffG_r (p : Int → Prop) : ∀ (m : Nat) (j : Int), j ≤ ffG p m j ∧ ffG p m j ≤ j + m ∧ (ffG p m j < j + m → p (ffG p m j)) ∧ ∀ i, j ≤ i → i < ffG p m j → ¬ p i := by
  intro m
  induction m with
  | zero => intro j; exact ⟨Int.le_refl _, by simp [ffG], fun h => by simp [ffG] at h, fun i h1 h2 => by simp only [ffG] at h2; omega⟩
  | succ m ih =>
    intro j
    by_cases h : p j
    · rw [ffG_t h]; exact ⟨Int.le_refl _, by omega, fun _ => h, fun i h1 h2 => by omega⟩
    · rw [ffG_f h]
      obtain ⟨a, b, c, d⟩ := ih (j + 1)
      refine ⟨by omega, by omega, fun z => c (by omega), fun i h1 h2 => ?_⟩
      by_cases e : i = j
      · subst e; exact h
      · exact d i (by omega) h2
/-- it is the least one -/
theorem ffG_eq {p q : Int → Prop} {m : Nat} {j : Int} (h : ∀ i, j ≤ i → i < j + m → (p i ↔ q i)) : ffG p m j = ffG q m j := by
  induction m generalizing j with
  | zero => rfl
  | succ m ih =>
    have h1 := h j (by omega) (by omega)
    by_cases hp : p j
    · rw [ffG_t hp, ffG_t (h1.mp hp)]
    · rw [ffG_f hp, ffG_f (fun z => hp (h1.mpr z))]
      exact ih (fun i a b => h i (by omega) (by omega))
def flx (n : Int) (kd : Int → Int) (i : Int) : Prop := 0 ≤ i ∧ i < n ∧ fl kd i
def g1 (n : Int) (kd nx : Int → Int) (s b : Int) : Int := if 0 ≤ s ∧ s < n then gon kd nx s b else -1
def nb6 (n : Int) (kd nx : Int → Int) (s b : Int) : Int := if 0 ≤ g1 n kd nx s b ∧ g1 n kd nx s b < n then g1 n kd nx s b else 6
theorem nb6_r {n : Int} {kd nx : Int → Int} (hM : MOK n kd nx) (s b : Int) : 0 ≤ nb6 n kd nx s b ∧ nb6 n kd nx s b ≤ 6 := by
  have := hM.2.1
  unfold nb6
  split <;> omega
def same (n : Int) (kd nx : Int → Int) (ls : Int → Int) (i j : Int) : Prop := (flx n kd i ↔ flx n kd j) ∧ ls (nb6 n kd nx i 0) = ls (nb6 n kd nx j 0) ∧ ls (nb6 n kd nx i 1) = ls (nb6 n kd nx j 1)
/-- the least one that seems alike behind r rounds -/
noncomputable def zLS (n : Int) (kd nx : Int → Int) : Nat → Int → Int
  | 0, _ => 0
  | r + 1, i => ffG (same n kd nx (zLS n kd nx r) i) i.toNat 0
theorem zLS_r (n : Int) (kd nx : Int → Int) (r : Nat) {i : Int} (h : 0 ≤ i) : 0 ≤ zLS n kd nx r i ∧ zLS n kd nx r i ≤ i := by
  cases r with
  | zero => exact ⟨Int.le_refl 0, h⟩
  | succ r =>
    have := ffG_r (same n kd nx (zLS n kd nx r) i) i.toNat 0
    unfold zLS
    omega
def EQ (n : Int) (kd nx : Int → Int) : Nat → Int → Int → Prop
  | 0, _, _ => True
  | r + 1, i, j => (flx n kd i ↔ flx n kd j) ∧ EQ n kd nx r (nb6 n kd nx i 0) (nb6 n kd nx j 0) ∧ EQ n kd nx r (nb6 n kd nx i 1) (nb6 n kd nx j 1)
theorem EQ.rf {n : Int} {kd nx : Int → Int} : ∀ {r : Nat} {i : Int}, EQ n kd nx r i i
  | 0, _ => trivial
  | _ + 1, _ => ⟨Iff.rfl, EQ.rf, EQ.rf⟩
theorem EQ.sy {n : Int} {kd nx : Int → Int} : ∀ {r : Nat} {i j : Int}, EQ n kd nx r i j → EQ n kd nx r j i
  | 0, _, _, _ => trivial
  | _ + 1, _, _, h => ⟨h.1.symm, h.2.1.sy, h.2.2.sy⟩
theorem EQ.tr {n : Int} {kd nx : Int → Int} : ∀ {r : Nat} {i j k : Int}, EQ n kd nx r i j → EQ n kd nx r j k → EQ n kd nx r i k
  | 0, _, _, _, _, _ => trivial
  | _ + 1, _, _, _, h, h2 => ⟨h.1.trans h2.1, h.2.1.tr h2.2.1, h.2.2.tr h2.2.2⟩
/-- parting agrees with being alike as far as r signs -/
theorem zLS_EQ {n : Int} {kd nx : Int → Int} (hM : MOK n kd nx) : ∀ (r : Nat) (i j : Int), 0 ≤ i → 0 ≤ j → (zLS n kd nx r i = zLS n kd nx r j ↔ EQ n kd nx r i j) := by
  intro r
  induction r with
  | zero => intro i j _ _; exact ⟨fun _ => trivial, fun _ => rfl⟩
  | succ r ih =>
    have hs : ∀ i j, same n kd nx (zLS n kd nx r) i j ↔ EQ n kd nx (r + 1) i j := by
      intro i j
      unfold same
      rw [ih _ _ (nb6_r hM i 0).1 (nb6_r hM j 0).1, ih _ _ (nb6_r hM i 1).1 (nb6_r hM j 1).1]
      exact Iff.rfl
    have hl : ∀ i, 0 ≤ i → EQ n kd nx (r + 1) i (zLS n kd nx (r + 1) i) ∧ ∀ j, 0 ≤ j → EQ n kd nx (r + 1) i j → zLS n kd nx (r + 1) i ≤ j := by
      intro i hi
      obtain ⟨a, b, c, d⟩ := ffG_r (same n kd nx (zLS n kd nx r) i) i.toNat 0
      change 0 ≤ zLS n kd nx (r + 1) i at a
      change zLS n kd nx (r + 1) i ≤ 0 + i.toNat at b
      change zLS n kd nx (r + 1) i < 0 + i.toNat → same n kd nx (zLS n kd nx r) i (zLS n kd nx (r + 1) i) at c
      constructor
      · by_cases e : zLS n kd nx (r + 1) i < 0 + i.toNat
        · exact (hs _ _).mp (c e)
        · have : zLS n kd nx (r + 1) i = i := by omega
          rw [this]; exact EQ.rf
      · intro j hj h
        rcases Int.lt_or_le j (zLS n kd nx (r + 1) i) with q | q
        · exact absurd ((hs _ _).mpr h) (d j hj q)
        · exact q
    intro i j hi hj
    have h1 := hl i hi
    have h2 := hl j hj
    have r1 := zLS_r n kd nx (r + 1) hi
    have r2 := zLS_r n kd nx (r + 1) hj
    constructor
    · intro e
      exact h1.1.tr (by rw [e]; exact h2.1.sy)
    · intro e
      have a := h1.2 _ r2.1 (e.tr h2.1)
      have b := h2.2 _ r1.1 (e.sy.tr h1.1)
      omega
theorem zLS_least {n : Int} {kd nx : Int → Int} (hM : MOK n kd nx) (r : Nat) {i : Int} (hi : 0 ≤ i) : zLS n kd nx (r + 1) i = ffG (fun j => EQ n kd nx (r + 1) j i) i.toNat 0 := by
  show ffG (same n kd nx (zLS n kd nx r) i) i.toNat 0 = _
  apply ffG_eq
  intro j h0 h1
  unfold same
  rw [zLS_EQ hM r _ _ (nb6_r hM i 0).1 (nb6_r hM j 0).1, zLS_EQ hM r _ _ (nb6_r hM i 1).1 (nb6_r hM j 1).1]
  exact ⟨fun h => EQ.sy (r := r + 1) h, fun h => EQ.sy (r := r + 1) h⟩
/-- the letter of a place: a state, or none -/
def lt6 (n i : Int) : Int := if 0 ≤ i ∧ i < n then 2 * i else -1
theorem lt6_lb {n : Int} {kd nx : Int → Int} (hM : MOK n kd nx) {i b : Int} (h0 : 0 ≤ i) (h1 : i < n) (hb0 : 0 ≤ b) (hb1 : b ≤ 1) : lb kd nx (2 * i) b = lt6 n (nb6 n kd nx i b) := by
  have hg := hM.go h0 h1 hb0 hb1
  have e1 : 2 * i / 2 = i := by omega
  rw [lb_w (w := b) (by rw [if_neg (by omega)]), e1]
  have e2 : g1 n kd nx i b = gon kd nx i b := if_pos ⟨h0, h1⟩
  unfold nb6 lt6
  rw [e2]
  have hn := hM.2.1
  by_cases hc : gon kd nx i b = -1
  · rw [if_pos hc, if_neg (show ¬ (0 ≤ gon kd nx i b ∧ gon kd nx i b < n) by omega), if_neg (by omega)]
  · rw [if_neg hc, if_pos (show 0 ≤ gon kd nx i b ∧ gon kd nx i b < n by omega), if_pos (by omega)]
    omega
/-- alike as far as r signs: all rows of r signs come out the same -/
theorem EQ_rows {n : Int} {kd nx : Int → Int} (hM : MOK n kd nx) : ∀ (r : Nat) (i j : Int), 0 ≤ i → 0 ≤ j → (EQ n kd nx r i j ↔ ∀ x, 0 ≤ x → x < 2 ^ r → rl kd nx r (lt6 n i) x = rl kd nx r (lt6 n j) x) := by
  intro r
  induction r with
  | zero => intro i j _ _; exact ⟨fun _ x _ _ => rfl, fun _ => trivial⟩
  | succ r ih =>
    have hp := p2_pos r
    /- one sign, and the rest -/
    have step : ∀ i, 0 ≤ i → ∀ b y, 0 ≤ b → b ≤ 1 → 0 ≤ y → y < 2 ^ r → rl kd nx (r + 1) (lt6 n i) (b * 2 ^ r + y) = (@ite Int (flx n kd i) (Classical.propDecidable _) (1 - b) b) * 2 ^ r + rl kd nx r (lt6 n (nb6 n kd nx i b)) y := by
      intro i hi b y hb0 hb1 hy0 hy1
      have e1 : (b * 2 ^ r + y) / 2 ^ r = b := by
        rw [Int.add_comm, Int.add_mul_ediv_right _ _ (by omega), Int.ediv_eq_zero_of_lt hy0 hy1, Int.zero_add]
      have e2 : (b * 2 ^ r + y) % 2 ^ r = y := by
        rw [Int.add_comm, Int.add_mul_emod_self_right, Int.emod_eq_of_lt hy0 hy1]
      by_cases hn : i < n
      · have e3 : lt6 n i = 2 * i := if_pos ⟨hi, hn⟩
        rw [e3, rl, if_neg (by omega), e1, e2, lt6_lb hM hi hn hb0 hb1, show 2 * i / 2 = i by omega]
        unfold fb
        by_cases hf : fl kd i
        · rw [if_pos hf, if_pos ⟨hi, hn, hf⟩]
        · rw [if_neg hf, if_neg (fun z => hf z.2.2)]
      · have e3 : lt6 n i = -1 := if_neg (by omega)
        have e4 : nb6 n kd nx i b = 6 := by
          have : g1 n kd nx i b = -1 := if_neg (by omega)
          unfold nb6
          rw [this, if_neg (by omega)]
        have e5 : lt6 n 6 = -1 := if_neg (by have := hM.2.1; omega)
        rw [e3, rl_none, e4, e5, rl_none, if_neg (fun z => hn z.2.1)]
    have spl : ∀ x : Int, 0 ≤ x → x < 2 ^ (r + 1) → ∃ b y, 0 ≤ b ∧ b ≤ 1 ∧ 0 ≤ y ∧ y < 2 ^ r ∧ x = b * 2 ^ r + y := by
      intro x h0 h1
      have hb := half_r h0 h1
      exact ⟨x / 2 ^ r, x % 2 ^ r, hb.1, hb.2, Int.emod_nonneg _ (by omega), Int.emod_lt_of_pos _ hp, by have := Int.mul_ediv_add_emod x (2 ^ r); rw [Int.mul_comm] at this; omega⟩
    have uni : ∀ a b y z : Int, 0 ≤ y → y < 2 ^ r → 0 ≤ z → z < 2 ^ r → a * 2 ^ r + y = b * 2 ^ r + z → a = b ∧ y = z := by
      intro a b y z y0 y1 z0 z1 e
      have d1 : (a * 2 ^ r + y) / 2 ^ r = a := by rw [Int.add_comm, Int.add_mul_ediv_right _ _ (by omega), Int.ediv_eq_zero_of_lt y0 y1, Int.zero_add]
      have d2 : (b * 2 ^ r + z) / 2 ^ r = b := by rw [Int.add_comm, Int.add_mul_ediv_right _ _ (by omega), Int.ediv_eq_zero_of_lt z0 z1, Int.zero_add]
      have hab : a = b := by rw [← d1, ← d2, e]
      subst hab
      exact ⟨rfl, by omega⟩
    intro i j hi hj
    constructor
    · rintro ⟨hf, h0, h1⟩ x hx0 hx1
      obtain ⟨b, y, hb0, hb1, hy0, hy1, rfl⟩ := spl x hx0 hx1
      rw [step i hi b y hb0 hb1 hy0 hy1, step j hj b y hb0 hb1 hy0 hy1]
      have hi2 := ih _ _ (nb6_r hM i b).1 (nb6_r hM j b).1
      have he : EQ n kd nx r (nb6 n kd nx i b) (nb6 n kd nx j b) := by
        have : b = 0 ∨ b = 1 := by omega
        rcases this with rfl | rfl
        · exact h0
        · exact h1
      rw [hi2.mp he y hy0 hy1]
      by_cases hfi : flx n kd i
      · rw [if_pos hfi, if_pos (hf.mp hfi)]
      · rw [if_neg hfi, if_neg (fun z => hfi (hf.mpr z))]
    · intro h
      have key : ∀ b, 0 ≤ b → b ≤ 1 → ∀ y, 0 ≤ y → y < 2 ^ r → (@ite Int (flx n kd i) (Classical.propDecidable _) (1 - b) b) = (@ite Int (flx n kd j) (Classical.propDecidable _) (1 - b) b) ∧ rl kd nx r (lt6 n (nb6 n kd nx i b)) y = rl kd nx r (lt6 n (nb6 n kd nx j b)) y := by
        intro b hb0 hb1 y hy0 hy1
        have hx : b * 2 ^ r + y < 2 ^ (r + 1) := by
          rw [p2_succ]
          have : b = 0 ∨ b = 1 := by omega
          rcases this with rfl | rfl <;> omega
        have hx0 : 0 ≤ b * 2 ^ r + y := by
          have : b = 0 ∨ b = 1 := by omega
          rcases this with rfl | rfl <;> omega
        have e := h _ hx0 hx
        rw [step i hi b y hb0 hb1 hy0 hy1, step j hj b y hb0 hb1 hy0 hy1] at e
        have a1 := rl_r kd nx r (lt6 n (nb6 n kd nx i b)) y hy0 hy1
        have a2 := rl_r kd nx r (lt6 n (nb6 n kd nx j b)) y hy0 hy1
        exact uni _ _ _ _ a1.1 a1.2 a2.1 a2.2 e
      refine ⟨?_, ?_, ?_⟩
      · have := (key 0 (by omega) (by omega) 0 (by omega) hp).1
        by_cases hfi : flx n kd i <;> by_cases hfj : flx n kd j
        · exact ⟨fun _ => hfj, fun _ => hfi⟩
        · rw [if_pos hfi, if_neg hfj] at this; omega
        · rw [if_neg hfi, if_pos hfj] at this; omega
        · exact ⟨fun z => absurd z hfi, fun z => absurd z hfj⟩
      · exact (ih _ _ (nb6_r hM i 0).1 (nb6_r hM j 0).1).mpr (fun y a b => (key 0 (by omega) (by omega) y a b).2)
      · exact (ih _ _ (nb6_r hM i 1).1 (nb6_r hM j 1).1).mpr (fun y a b => (key 1 (by omega) (by omega) y a b).2)
def alk (kd nx : Int → Int) (i j : Int) : Prop := ∀ x, 0 ≤ x → x < 128 → rl kd nx 7 (2 * i) x = rl kd nx 7 (2 * j) x
noncomputable def lea (kd nx : Int → Int) (s : Int) : Int := ffG (fun j => alk kd nx j s) s.toNat 0
theorem zLS_lea {n : Int} {kd nx : Int → Int} (hM : MOK n kd nx) {s : Int} (h0 : 0 ≤ s) (h1 : s < n) : zLS n kd nx 7 s = lea kd nx s := by
  rw [zLS_least hM 6 h0]
  apply ffG_eq
  intro j hj0 hj1
  rw [EQ_rows hM 7 j s hj0 h0]
  have e1 : lt6 n j = 2 * j := if_pos ⟨hj0, by omega⟩
  have e2 : lt6 n s = 2 * s := if_pos ⟨h0, h1⟩
  rw [e1, e2]
  exact Iff.rfl
theorem lea_r (kd nx : Int → Int) {s : Int} (h0 : 0 ≤ s) : 0 ≤ lea kd nx s ∧ lea kd nx s ≤ s := by
  have := ffG_r (fun j => alk kd nx j s) s.toNat 0
  unfold lea
  omega
