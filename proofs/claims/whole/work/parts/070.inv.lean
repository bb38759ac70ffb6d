/-! class and reference side by side -/
theorem zSem_wk {G : zG} {M : zM} {d : Nat} {av : List zV} {st : zS} {P P' : Int → zS → Prop} (h : zSem G M d av st (zpi P)) (hp : ∀ x u, P x u → P' x u) : zSem G M d av st (zpi P') := by
  intro l
  refine Jvm.Free.MetFree.mono (h l) (fun _ _ z => z) (fun _ _ _ _ _ z => z) ?_
  rintro a s o t _ ⟨⟨⟨r, u, q1, ⟨x, q2, q3⟩, q4⟩, q5⟩, q6⟩
  exact ⟨⟨⟨r, u, q1, ⟨x, q2, hp x u q3⟩, q4⟩, q5⟩, q6⟩
theorem zSem_wkl {G : zG} {M : zM} {d : Nat} {av : List zV} {st : zS} {P P' : Int → zS → Prop} (h : zSem G M d av st (zpl P)) (hp : ∀ x u, P x u → P' x u) : zSem G M d av st (zpl P') := by
  intro l
  refine Jvm.Free.MetFree.mono (h l) (fun _ _ z => z) (fun _ _ _ _ _ z => z) ?_
  rintro a s o t _ ⟨⟨⟨r, u, q1, ⟨x, q2, q3⟩, q4⟩, q5⟩, q6⟩
  exact ⟨⟨⟨r, u, q1, ⟨x, q2, hp x u q3⟩, q4⟩, q5⟩, q6⟩
/-- no letter stands ahead of its inverse -/
def Rdd (xs : List Int) : Prop := ∀ p a b q, xs = p ++ a :: b :: q → a ≠ inv b
theorem Rdd.nil : Rdd [] := fun p a b q h => by simp at h
theorem Rdd.rd {xs : List Int} (h : Rdd xs) (l : Int) : Rdd (red xs l) := by
  unfold red
  split
  · rename_i hl
    intro p a b q e
    have hne : xs ≠ [] := by intro z; rw [z] at hl; cases hl
    have e2 : xs = p ++ a :: b :: (q ++ [xs.getLast hne]) := by
      have := List.dropLast_concat_getLast hne
      rw [e] at this
      exact this.symm.trans (by simp)
    exact h p a b _ e2
  · rename_i hl
    intro p a b q e
    rcases List.eq_nil_or_concat q with rfl | ⟨q2, c, rfl⟩
    · have e2 : xs ++ [l] = (p ++ [a]) ++ [b] := by rw [e]; simp
      obtain ⟨e3, e4⟩ := List.append_inj' e2 rfl
      have e5 : l = b := by simpa using e4
      intro z
      apply hl
      rw [e3, e5, z]
      simp
    · have e2 : xs ++ [l] = (p ++ a :: b :: q2) ++ [c] := by rw [e]; simp
      obtain ⟨e3, e4⟩ := List.append_inj' e2 rfl
      exact h p a b q2 e3
theorem Rdd.fold : ∀ (ls xs : List Int), Rdd xs → Rdd (ls.foldl red xs) := by
  intro ls
  induction ls with
  | nil => intro xs h; exact h
  | cons a t ih => intro xs h; exact ih _ (h.rd a)
theorem Rdd.id2 : ∀ (rest pre : List Int), Rdd (pre ++ rest) → rest.foldl red pre = pre ++ rest := by
  intro rest
  induction rest with
  | nil => intro pre _; simp
  | cons a t ih =>
    intro pre h
    have e : red pre a = pre ++ [a] := by
      unfold red
      rw [if_neg]
      intro z
      have hne : pre ≠ [] := by intro y; rw [y] at z; cases z
      have h1 := List.dropLast_concat_getLast hne
      have h2 : pre.getLast hne = inv a := by
        rw [List.getLast?_eq_some_getLast hne] at z
        exact Option.some.inj z
      exact h pre.dropLast (inv a) a t (by rw [← h2]; conv => lhs; rw [← h1]
                                           simp) rfl
    rw [List.foldl_cons, e, ih (pre ++ [a]) (by simpa using h)]
    simp
theorem Rdd.sm {xs : List Int} (h : Rdd xs) : xs.foldl red [] = xs := Rdd.id2 xs [] h
theorem Rdd.rw {c : Int → Int} : ∀ i, Rdd (rdW c i)
  | 0 => Rdd.nil
  | i + 1 => (Rdd.rw i).rd _
theorem Rdd.sc {kd nx : Int → Int} (xs : List Int) (b : Int) : Rdd (sec kd nx xs b) := by
  have key : ∀ (xs : List Int) (a : List Int × Int), Rdd a.1 → Rdd (xs.foldl (sec1 kd nx) a).1 := by
    intro xs
    induction xs with
    | nil => intro a h; exact h
    | cons l t ih =>
      intro a h
      refine ih _ ?_
      unfold sec1
      dsimp only
      split
      · exact h
      · exact h.rd _
  exact key xs ([], b) Rdd.nil
/-! sorts: the list of what was seen, and the bits -/
def bt (x : Nat → Int) : Nat → Int
  | 0 => 0
  | k + 1 => zor (bt x k) (x k * 2 ^ k)
theorem srt_bt (m : Int) (of wh co : Int → Int) (s : Int) : ∀ k, srt m of wh co s k = bt (fun k => zb (sAll m of wh co s k)) k := by
  intro k
  induction k with
  | zero => rfl
  | succ k ih => rw [srt, bt, ih]
theorem bt_eq {x y : Nat → Int} : ∀ k, (∀ j, j < k → x j = y j) → bt x k = bt y k := by
  intro k
  induction k with
  | zero => intro _; rfl
  | succ k ih => intro h; rw [bt, bt, ih (fun j hj => h j (by omega)), h k (by omega)]
theorem srt_congr {m : Int} {of wh co of' wh' co' : Int → Int} {s : Int} (k : Nat) (h : ∀ n, 0 ≤ n → n < m → of' n = of n ∧ wh' n = wh n ∧ co' n = co n) : srt m of' wh' co' s k = srt m of wh co s k := by
  rw [srt_bt, srt_bt]
  refine bt_eq k (fun j _ => zb_iff ⟨fun z n a b => ?_, fun z n a b => ?_⟩)
  · have := z n a b; rw [(h n a b).1, (h n a b).2.1, (h n a b).2.2] at this; exact this
  · have := z n a b; rw [(h n a b).1, (h n a b).2.1, (h n a b).2.2]; exact this
theorem srt_0 (of wh co : Int → Int) (s : Int) : srt 0 of wh co s 5 = 31 := by
  rw [srt_bt, bt_eq (x := fun k => zb (sAll 0 of wh co s k)) (y := fun _ => 1) 5 (fun j _ => zb_t (p := sAll 0 of wh co s j) (fun n a b => by omega))]
  decide +kernel
def b5 (a b c d e : Int) : Int := zor (zor (zor (zor (zor 0 (a * 1)) (b * 2)) (c * 4)) (d * 8)) (e * 16)
def eK (k q f : Int) : Int := if (if cld k q then (1 : Int) else 0) = f then 1 else 0
theorem b5_all : ∀ v : Nat, v < 32 → ∀ q : Nat, q < 4 → ∀ f : Nat, f < 2 → b5 ((v % 2 : Nat) * eK 0 q f) ((v / 2 % 2 : Nat) * eK 1 q f) ((v / 4 % 2 : Nat) * eK 2 q f) ((v / 8 % 2 : Nat) * eK 3 q f) ((v / 16 % 2 : Nat) * eK 4 q f) = zand (b5 (v % 2 : Nat) (v / 2 % 2 : Nat) (v / 4 % 2 : Nat) (v / 8 % 2 : Nat) (v / 16 % 2 : Nat)) (msk q f) := by decide +kernel
theorem b5_int {a b c d e q f : Int} (ha : a = 0 ∨ a = 1) (hb : b = 0 ∨ b = 1) (hc : c = 0 ∨ c = 1) (hd : d = 0 ∨ d = 1) (he : e = 0 ∨ e = 1) (hq0 : 0 ≤ q) (hq1 : q < 4) (hf : f = 0 ∨ f = 1) : b5 (a * eK 0 q f) (b * eK 1 q f) (c * eK 2 q f) (d * eK 3 q f) (e * eK 4 q f) = zand (b5 a b c d e) (msk q f) := by
  obtain ⟨a, rfl⟩ := Int.eq_ofNat_of_zero_le (show 0 ≤ a by omega)
  obtain ⟨b, rfl⟩ := Int.eq_ofNat_of_zero_le (show 0 ≤ b by omega)
  obtain ⟨c, rfl⟩ := Int.eq_ofNat_of_zero_le (show 0 ≤ c by omega)
  obtain ⟨d, rfl⟩ := Int.eq_ofNat_of_zero_le (show 0 ≤ d by omega)
  obtain ⟨e, rfl⟩ := Int.eq_ofNat_of_zero_le (show 0 ≤ e by omega)
  obtain ⟨q, rfl⟩ := Int.eq_ofNat_of_zero_le hq0
  obtain ⟨f, rfl⟩ := Int.eq_ofNat_of_zero_le (show 0 ≤ f by omega)
  have h := b5_all (a + 2 * b + 4 * c + 8 * d + 16 * e) (by omega) q (by omega) f (by omega)
  rw [show (a + 2 * b + 4 * c + 8 * d + 16 * e) % 2 = a by omega, show (a + 2 * b + 4 * c + 8 * d + 16 * e) / 2 % 2 = b by omega, show (a + 2 * b + 4 * c + 8 * d + 16 * e) / 4 % 2 = c by omega, show (a + 2 * b + 4 * c + 8 * d + 16 * e) / 8 % 2 = d by omega, show (a + 2 * b + 4 * c + 8 * d + 16 * e) / 16 % 2 = e by omega] at h
  exact h
theorem zb_eK {p : Prop} {k q f : Int} : zb (p ∧ zb (cld k q) = f) = zb p * eK k q f := by
  unfold eK
  by_cases hp : p
  · rw [zb_t hp, Int.one_mul]
    by_cases hc : cld k q
    · rw [if_pos hc]
      by_cases hf : (1 : Int) = f
      · rw [if_pos hf, zb_t ⟨hp, by rw [zb_t hc]; exact hf⟩]
      · rw [if_neg hf, zb_f (fun z => hf (by rw [← z.2, zb_t hc]))]
    · rw [if_neg hc]
      by_cases hf : (0 : Int) = f
      · rw [if_pos hf, zb_t ⟨hp, by rw [zb_f hc]; exact hf⟩]
      · rw [if_neg hf, zb_f (fun z => hf (by rw [← z.2, zb_f hc]))]
  · rw [zb_f hp, Int.zero_mul, zb_f (fun z => hp z.1)]
theorem sAll_s {m : Int} {of wh co : Int → Int} {s q f t k : Int} (hm : 0 ≤ m) : sAll (m + 1) (zf of m s) (zf wh m q) (zf co m f) t k ↔ sAll m of wh co t k ∧ (s ≠ t ∨ zb (cld k q) = f) := by
  constructor
  · intro h
    refine ⟨fun n a b => ?_, ?_⟩
    · have := h n a (by omega)
      rw [zf_ne (by omega), zf_ne (by omega), zf_ne (by omega)] at this
      exact this
    · have := h m hm (by omega)
      rw [zf_eq, zf_eq, zf_eq] at this
      exact this
  · rintro ⟨h1, h2⟩ n a b
    by_cases e : n = m
    · subst e; rw [zf_eq, zf_eq, zf_eq]; exact h2
    · rw [zf_ne e, zf_ne e, zf_ne e]; exact h1 n a (by omega)
theorem srt_s {m : Int} {of wh co : Int → Int} {s q f t : Int} (hm : 0 ≤ m) (hq0 : 0 ≤ q) (hq1 : q < 4) (hf : f = 0 ∨ f = 1) : srt (m + 1) (zf of m s) (zf wh m q) (zf co m f) t 5 = if t = s then zand (srt m of wh co t 5) (msk q f) else srt m of wh co t 5 := by
  by_cases e : t = s
  · rw [if_pos e, srt_bt, srt_bt]
    have e1 : bt (fun k => zb (sAll (m + 1) (zf of m s) (zf wh m q) (zf co m f) t k)) 5 = bt (fun k => zb (sAll m of wh co t k) * eK k q f) 5 := bt_eq 5 (fun j _ => by
      rw [← zb_eK]
      refine zb_iff ((sAll_s hm).trans ⟨fun z => ⟨z.1, z.2.elim (fun y => absurd e.symm y) (fun y => y)⟩, fun z => ⟨z.1, Or.inr z.2⟩⟩))
    rw [e1]
    exact b5_int (zb_or _).symm.symm (zb_or _) (zb_or _) (zb_or _) (zb_or _) hq0 hq1 hf
  · rw [if_neg e, srt_bt, srt_bt]
    exact bt_eq 5 (fun j _ => zb_iff ((sAll_s hm).trans ⟨fun z => z.1, fun z => ⟨z, Or.inl (fun y => e y.symm)⟩⟩))
