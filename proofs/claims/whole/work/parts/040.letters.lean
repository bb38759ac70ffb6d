/-! small static methods of the class, and its rows of letters -/
set_option maxHeartbeats 4000000 in
theorem c_X6_inverseOf {G : zG} {sz : zSz} {ar : zAr} {l : Int} (h : 0 ≤ l)  : zSem G mX6_inverseOf 0 [zI l] (X sz ar) (zpi fun r u => r = inv l ∧ u = X sz ar) := by
  refine z_enter (L' := [some (zI l)]) (by decide +kernel) (Nat.le_of_ble_eq_true rfl) ⟨0, rfl⟩ ?_
  refine z_iload_0 dX6_inverseOf_0 (n := 1) rfl ?_
  refine z_iconst dX6_inverseOf_1 (n := 2) rfl ?_
  refine z_ixor dX6_inverseOf_2 (n := 3) rfl (by omega) (by omega) ?_
  refine z_ret_i dX6_inverseOf_3 rfl ?_
  exact ⟨rfl, rfl⟩
set_option maxHeartbeats 4000000 in
theorem c_X6_stateOf {G : zG} {sz : zSz} {ar : zAr} {l : Int} (h : zr l)  : zSem G mX6_stateOf 0 [zI l] (X sz ar) (zpi fun r u => r = l / 2 ∧ u = X sz ar) := by
  refine z_enter (L' := [some (zI l)]) (by decide +kernel) (Nat.le_of_ble_eq_true rfl) ⟨0, rfl⟩ ?_
  refine z_iload_0 dX6_stateOf_0 (n := 1) rfl ?_
  refine z_iconst dX6_stateOf_1 (n := 2) rfl ?_
  refine z_ishr dX6_stateOf_2 (n := 3) rfl (by first | assumption | exact ⟨by omega, by omega⟩ | exact zb_zr _) (by omega) (by omega) ?_
  refine z_ret_i dX6_stateOf_3 rfl ?_
  exact ⟨rfl, rfl⟩
set_option maxHeartbeats 4000000 in
theorem c_X6_isInverse {G : zG} {sz : zSz} {ar : zAr} {l : Int} (h : 0 ≤ l)  : zSem G mX6_isInverse 0 [zI l] (X sz ar) (zpi fun r u => r = zb (l % 2 = 1) ∧ u = X sz ar) := by
  refine z_enter (L' := [some (zI l)]) (by decide +kernel) (Nat.le_of_ble_eq_true rfl) ⟨0, rfl⟩ ?_
  refine z_iload_0 dX6_isInverse_0 (n := 1) rfl ?_
  refine z_iconst dX6_isInverse_1 (n := 2) rfl ?_
  refine z_iand1 dX6_isInverse_2 (n := 3) rfl (by omega) ?_
  refine z_iconst dX6_isInverse_3 (n := 4) rfl ?_
  refine z_icmp_ne dX6_isInverse_4 (n := 7) (tg := 11) rfl (by decide) (by first | assumption | exact ⟨by omega, by omega⟩ | exact zb_zr _) (by first | assumption | exact ⟨by omega, by omega⟩ | exact zb_zr _) (fun c4 => ?_) (fun c4 => ?_)
  · refine z_iconst dX6_isInverse_11 (n := 12) rfl ?_
    refine z_ret_z dX6_isInverse_12 rfl (by first | exact Or.inl rfl | exact Or.inr rfl | exact zb_or _) ?_
    first | exact ⟨(zb_t (by omega)).symm, rfl⟩ | exact ⟨(zb_f (by omega)).symm, rfl⟩
  · refine z_iconst dX6_isInverse_7 (n := 8) rfl ?_
    refine z_goto dX6_isInverse_8 (n := 12) (by decide) ?_
    refine z_ret_z dX6_isInverse_12 rfl (by first | exact Or.inl rfl | exact Or.inr rfl | exact zb_or _) ?_
    first | exact ⟨(zb_t (by omega)).symm, rfl⟩ | exact ⟨(zb_f (by omega)).symm, rfl⟩
set_option maxHeartbeats 4000000 in
theorem c_X6_letterOf {G : zG} {sz : zSz} {ar : zAr} {s : Int} {p : Prop}  : zSem G mX6_letterOf 0 [zI s, zI (zb p)] (X sz ar) (zpi fun r u => r = 2 * s + zb p ∧ u = X sz ar) := by
  refine z_enter (L' := [some (zI s), some (zI (zb p))]) (by decide +kernel) (Nat.le_of_ble_eq_true rfl) ⟨0, rfl⟩ ?_
  refine z_iconst dX6_letterOf_0 (n := 1) rfl ?_
  refine z_iload_0 dX6_letterOf_1 (n := 2) rfl ?_
  refine z_imul dX6_letterOf_2 (n := 3) rfl ?_
  refine z_iload_1 dX6_letterOf_3 (n := 4) rfl ?_
  refine z_if_eq dX6_letterOf_4 (n := 7) (tg := 11) rfl (by decide) (by first | assumption | exact ⟨by omega, by omega⟩ | exact zb_zr _) (fun c4 => ?_) (fun c4 => ?_)
  · refine z_iconst dX6_letterOf_11 (n := 12) rfl ?_
    refine z_iadd dX6_letterOf_12 (n := 13) rfl ?_
    refine z_ret_i dX6_letterOf_13 rfl ?_
    have h9 := zb_or p; exact ⟨by omega, rfl⟩
  · refine z_iconst dX6_letterOf_7 (n := 8) rfl ?_
    refine z_goto dX6_letterOf_8 (n := 12) (by decide) ?_
    refine z_iadd dX6_letterOf_12 (n := 13) rfl ?_
    refine z_ret_i dX6_letterOf_13 rfl ?_
    have h9 := zb_or p; exact ⟨by omega, rfl⟩
set_option maxHeartbeats 4000000 in
theorem c_X6_isSign {G : zG} {sz : zSz} {ar : zAr} {s : Int} (h : zr s)  : zSem G mX6_isSign 0 [zI s] (X sz ar) (zpi fun r u => r = zb (s = 0 ∨ s = 1) ∧ u = X sz ar) := by
  refine z_enter (L' := [some (zI s)]) (by decide +kernel) (Nat.le_of_ble_eq_true rfl) ⟨0, rfl⟩ ?_
  refine z_iload_0 dX6_isSign_0 (n := 1) rfl ?_
  refine z_if_eq dX6_isSign_1 (n := 4) (tg := 9) rfl (by decide) (by first | assumption | exact ⟨by omega, by omega⟩ | exact zb_zr _) (fun c1 => ?_) (fun c1 => ?_)
  · refine z_iconst dX6_isSign_9 (n := 10) rfl ?_
    refine z_goto dX6_isSign_10 (n := 14) (by decide) ?_
    refine z_ret_z dX6_isSign_14 rfl (by first | exact Or.inl rfl | exact Or.inr rfl | exact zb_or _) ?_
    first | exact ⟨(zb_t (by omega)).symm, rfl⟩ | exact ⟨(zb_f (by omega)).symm, rfl⟩
  · refine z_iload_0 dX6_isSign_4 (n := 5) rfl ?_
    refine z_iconst dX6_isSign_5 (n := 6) rfl ?_
    refine z_icmp_ne dX6_isSign_6 (n := 9) (tg := 13) rfl (by decide) (by first | assumption | exact ⟨by omega, by omega⟩ | exact zb_zr _) (by first | assumption | exact ⟨by omega, by omega⟩ | exact zb_zr _) (fun c6 => ?_) (fun c6 => ?_)
    · refine z_iconst dX6_isSign_13 (n := 14) rfl ?_
      refine z_ret_z dX6_isSign_14 rfl (by first | exact Or.inl rfl | exact Or.inr rfl | exact zb_or _) ?_
      first | exact ⟨(zb_t (by omega)).symm, rfl⟩ | exact ⟨(zb_f (by omega)).symm, rfl⟩
    · refine z_iconst dX6_isSign_9 (n := 10) rfl ?_
      refine z_goto dX6_isSign_10 (n := 14) (by decide) ?_
      refine z_ret_z dX6_isSign_14 rfl (by first | exact Or.inl rfl | exact Or.inr rfl | exact zb_or _) ?_
      first | exact ⟨(zb_t (by omega)).symm, rfl⟩ | exact ⟨(zb_f (by omega)).symm, rfl⟩
set_option maxHeartbeats 4000000 in
theorem c_X6_isKind {G : zG} {sz : zSz} {ar : zAr} {s : Int} (h : zr s)  : zSem G mX6_isKind 0 [zI s] (X sz ar) (zpi fun r u => r = zb (0 ≤ s ∧ s < 5) ∧ u = X sz ar) := by
  refine z_enter (L' := [some (zI s)]) (by decide +kernel) (Nat.le_of_ble_eq_true rfl) ⟨0, rfl⟩ ?_
  refine z_iload_0 dX6_isKind_0 (n := 1) rfl ?_
  refine z_if_lt dX6_isKind_1 (n := 4) (tg := 13) rfl (by decide) (by first | assumption | exact ⟨by omega, by omega⟩ | exact zb_zr _) (fun c1 => ?_) (fun c1 => ?_)
  · refine z_iconst dX6_isKind_13 (n := 14) rfl ?_
    refine z_ret_z dX6_isKind_14 rfl (by first | exact Or.inl rfl | exact Or.inr rfl | exact zb_or _) ?_
    first | exact ⟨(zb_t (by omega)).symm, rfl⟩ | exact ⟨(zb_f (by omega)).symm, rfl⟩
  · refine z_iload_0 dX6_isKind_4 (n := 5) rfl ?_
    refine z_iconst dX6_isKind_5 (n := 6) rfl ?_
    refine z_icmp_ge dX6_isKind_6 (n := 9) (tg := 13) rfl (by decide) (by first | assumption | exact ⟨by omega, by omega⟩ | exact zb_zr _) (by first | assumption | exact ⟨by omega, by omega⟩ | exact zb_zr _) (fun c6 => ?_) (fun c6 => ?_)
    · refine z_iconst dX6_isKind_13 (n := 14) rfl ?_
      refine z_ret_z dX6_isKind_14 rfl (by first | exact Or.inl rfl | exact Or.inr rfl | exact zb_or _) ?_
      first | exact ⟨(zb_t (by omega)).symm, rfl⟩ | exact ⟨(zb_f (by omega)).symm, rfl⟩
    · refine z_iconst dX6_isKind_9 (n := 10) rfl ?_
      refine z_goto dX6_isKind_10 (n := 14) (by decide) ?_
      refine z_ret_z dX6_isKind_14 rfl (by first | exact Or.inl rfl | exact Or.inr rfl | exact zb_or _) ?_
      first | exact ⟨(zb_t (by omega)).symm, rfl⟩ | exact ⟨(zb_f (by omega)).symm, rfl⟩
set_option maxHeartbeats 4000000 in
theorem c_X6_isWord {G : zG} {sz : zSz} {ar : zAr} {s : Int} (h : zr s)  : zSem G mX6_isWord 0 [zI s] (X sz ar) (zpi fun r u => r = zb (0 ≤ s ∧ s < 3) ∧ u = X sz ar) := by
  refine z_enter (L' := [some (zI s)]) (by decide +kernel) (Nat.le_of_ble_eq_true rfl) ⟨0, rfl⟩ ?_
  refine z_iload_0 dX6_isWord_0 (n := 1) rfl ?_
  refine z_if_lt dX6_isWord_1 (n := 4) (tg := 13) rfl (by decide) (by first | assumption | exact ⟨by omega, by omega⟩ | exact zb_zr _) (fun c1 => ?_) (fun c1 => ?_)
  · refine z_iconst dX6_isWord_13 (n := 14) rfl ?_
    refine z_ret_z dX6_isWord_14 rfl (by first | exact Or.inl rfl | exact Or.inr rfl | exact zb_or _) ?_
    first | exact ⟨(zb_t (by omega)).symm, rfl⟩ | exact ⟨(zb_f (by omega)).symm, rfl⟩
  · refine z_iload_0 dX6_isWord_4 (n := 5) rfl ?_
    refine z_iconst dX6_isWord_5 (n := 6) rfl ?_
    refine z_icmp_ge dX6_isWord_6 (n := 9) (tg := 13) rfl (by decide) (by first | assumption | exact ⟨by omega, by omega⟩ | exact zb_zr _) (by first | assumption | exact ⟨by omega, by omega⟩ | exact zb_zr _) (fun c6 => ?_) (fun c6 => ?_)
    · refine z_iconst dX6_isWord_13 (n := 14) rfl ?_
      refine z_ret_z dX6_isWord_14 rfl (by first | exact Or.inl rfl | exact Or.inr rfl | exact zb_or _) ?_
      first | exact ⟨(zb_t (by omega)).symm, rfl⟩ | exact ⟨(zb_f (by omega)).symm, rfl⟩
    · refine z_iconst dX6_isWord_9 (n := 10) rfl ?_
      refine z_goto dX6_isWord_10 (n := 14) (by decide) ?_
      refine z_ret_z dX6_isWord_14 rfl (by first | exact Or.inl rfl | exact Or.inr rfl | exact zb_or _) ?_
      first | exact ⟨(zb_t (by omega)).symm, rfl⟩ | exact ⟨(zb_f (by omega)).symm, rfl⟩
set_option maxHeartbeats 4000000 in
theorem c_X1_size {G : zG} {sz : zSz} {ar : zAr} {k : Nat} (hk : isL k)  : zSem G mX1_size 0 [zR k] (X sz ar) (zpi fun r u => r = sz k 1 ∧ u = X sz ar) := by
  refine z_enter (L' := [some (zR k)]) (by decide +kernel) (Nat.le_of_ble_eq_true rfl) ⟨0, rfl⟩ ?_
  refine z_aload_0 dX1_size_0 (n := 1) rfl ?_
  refine z_get dX1_size_1 (n := 4) rfl (XL1 hk) fd_X1_21 rfl ?_
  refine z_ret_i dX1_size_4 rfl ?_
  exact ⟨rfl, rfl⟩
set_option maxHeartbeats 4000000 in
theorem c_X1_clear {G : zG} {sz : zSz} {ar : zAr} {k : Nat} (hk : isL k)  : zSem G mX1_clear 0 [zR k] (X sz ar) (zpv fun u => u = X (zz sz k 1 0) ar) := by
  refine z_enter (L' := [some (zR k)]) (by decide +kernel) (Nat.le_of_ble_eq_true rfl) ⟨0, rfl⟩ ?_
  refine z_aload_0 dX1_clear_0 (n := 1) rfl ?_
  refine z_iconst dX1_clear_1 (n := 2) rfl ?_
  refine z_putX dX1_clear_2 (n := 5) rfl (XL1 hk) fw_X1_21 (by first | decide | simp) (XL3 hk _) ?_
  refine z_ret_v dX1_clear_5 rfl ?_
  rfl
set_option maxHeartbeats 4000000 in
theorem c_X1_at {G : zG} {sz : zSz} {ar : zAr} {k : Nat} {p : Int} (hk : isL k) (hp : zr p) (hs : sz k 1 ≤ cap k) (hs0 : 0 ≤ sz k 1)  : zSem G mX1_at 0 [zR k, zI p] (X sz ar) (zpi fun r u => r = (if 0 ≤ p ∧ p < sz k 1 then ar (k + 1) p else -1) ∧ u = X sz ar) := by
  refine z_enter (L' := [some (zR k), some (zI p)]) (by decide +kernel) (Nat.le_of_ble_eq_true rfl) ⟨0, rfl⟩ ?_
  have hc := cap_r k
  refine z_iload_1 dX1_at_0 (n := 1) rfl ?_
  refine z_if_lt dX1_at_1 (n := 4) (tg := 30) rfl (by decide) (by first | assumption | exact ⟨by omega, by omega⟩ | exact zb_zr _) (fun c1 => ?_) (fun c1 => ?_)
  · refine z_iconst dX1_at_30 (n := 31) rfl ?_
    refine z_ret_i dX1_at_31 rfl ?_
    first | exact ⟨(if_pos (by omega)).symm, rfl⟩ | exact ⟨(if_neg (by omega)).symm, rfl⟩
  · refine z_iload_1 dX1_at_4 (n := 5) rfl ?_
    refine z_aload_0 dX1_at_5 (n := 6) rfl ?_
    refine z_get dX1_at_6 (n := 9) rfl (XL1 hk) fd_X1_21 rfl ?_
    refine z_icmp_ge dX1_at_9 (n := 12) (tg := 30) rfl (by decide) (by first | assumption | exact ⟨by omega, by omega⟩ | exact zb_zr _) (by first | assumption | exact ⟨by omega, by omega⟩ | exact zb_zr _) (fun c9 => ?_) (fun c9 => ?_)
    · refine z_iconst dX1_at_30 (n := 31) rfl ?_
      refine z_ret_i dX1_at_31 rfl ?_
      first | exact ⟨(if_pos (by omega)).symm, rfl⟩ | exact ⟨(if_neg (by omega)).symm, rfl⟩
    · refine z_iload_1 dX1_at_12 (n := 13) rfl ?_
      refine z_aload_0 dX1_at_13 (n := 14) rfl ?_
      refine z_get dX1_at_14 (n := 17) rfl (XL1 hk) fd_X1_15 rfl ?_
      refine z_alen dX1_at_17 (n := 18) rfl (XL2 hk) (by decide) ?_
      refine z_icmp_ge dX1_at_18 (n := 21) (tg := 30) rfl (by decide) (by first | assumption | exact ⟨by omega, by omega⟩ | exact zb_zr _) (by first | assumption | exact ⟨by omega, by omega⟩ | exact zb_zr _) (fun c18 => ?_) (fun c18 => ?_)
      · refine z_iconst dX1_at_30 (n := 31) rfl ?_
        refine z_ret_i dX1_at_31 rfl ?_
        first | exact ⟨(if_pos (by omega)).symm, rfl⟩ | exact ⟨(if_neg (by omega)).symm, rfl⟩
      · refine z_aload_0 dX1_at_21 (n := 22) rfl ?_
        refine z_get dX1_at_22 (n := 25) rfl (XL1 hk) fd_X1_15 rfl ?_
        refine z_iload_1 dX1_at_25 (n := 26) rfl ?_
        refine z_iald dX1_at_26 (n := 27) rfl (XL2 hk) (by omega) (by omega) (by omega) ?_
        refine z_goto dX1_at_27 (n := 31) (by decide) ?_
        refine z_ret_i dX1_at_31 rfl ?_
        first | exact ⟨(if_pos (by omega)).symm, rfl⟩ | exact ⟨(if_neg (by omega)).symm, rfl⟩
set_option maxHeartbeats 4000000 in
theorem c_X1_addAsIs {G : zG} {sz : zSz} {ar : zAr} {k : Nat} {l : Int} (hk : isL k) (hs0 : 0 ≤ sz k 1) (hs : sz k 1 < cap k)  : zSem G mX1_addAsIs 0 [zR k, zI l] (X sz ar) (zpv fun u => u = X (zz sz k 1 (sz k 1 + 1)) (zq ar (k + 1) (zf (ar (k + 1)) (sz k 1) l))) := by
  refine z_enter (L' := [some (zR k), some (zI l)]) (by decide +kernel) (Nat.le_of_ble_eq_true rfl) ⟨0, rfl⟩ ?_
  have hc := cap_r k
  refine z_aload_0 dX1_addAsIs_0 (n := 1) rfl ?_
  refine z_get dX1_addAsIs_1 (n := 4) rfl (XL1 hk) fd_X1_21 rfl ?_
  refine z_if_lt dX1_addAsIs_4 (n := 7) (tg := 39) rfl (by decide) (by first | assumption | exact ⟨by omega, by omega⟩ | exact zb_zr _) (fun c4 => ?_) (fun c4 => ?_)
  · exfalso; omega
  · refine z_aload_0 dX1_addAsIs_7 (n := 8) rfl ?_
    refine z_get dX1_addAsIs_8 (n := 11) rfl (XL1 hk) fd_X1_21 rfl ?_
    refine z_aload_0 dX1_addAsIs_11 (n := 12) rfl ?_
    refine z_get dX1_addAsIs_12 (n := 15) rfl (XL1 hk) fd_X1_15 rfl ?_
    refine z_alen dX1_addAsIs_15 (n := 16) rfl (XL2 hk) (by decide) ?_
    refine z_icmp_ge dX1_addAsIs_16 (n := 19) (tg := 39) rfl (by decide) (by first | assumption | exact ⟨by omega, by omega⟩ | exact zb_zr _) (by first | assumption | exact ⟨by omega, by omega⟩ | exact zb_zr _) (fun c16 => ?_) (fun c16 => ?_)
    · exfalso; omega
    · refine z_aload_0 dX1_addAsIs_19 (n := 20) rfl ?_
      refine z_get dX1_addAsIs_20 (n := 23) rfl (XL1 hk) fd_X1_15 rfl ?_
      refine z_aload_0 dX1_addAsIs_23 (n := 24) rfl ?_
      refine z_get dX1_addAsIs_24 (n := 27) rfl (XL1 hk) fd_X1_21 rfl ?_
      refine z_iload_1 dX1_addAsIs_27 (n := 28) rfl ?_
      refine z_iastX dX1_addAsIs_28 (n := 29) rfl (XL2 hk) (by omega) (by omega) (by omega) (XL4 hk _) ?_
      refine z_aload_0 dX1_addAsIs_29 (n := 30) rfl ?_
      refine z_dup dX1_addAsIs_30 (n := 31) rfl rfl ?_
      refine z_get dX1_addAsIs_31 (n := 34) rfl (XL1 hk) fd_X1_21 rfl ?_
      refine z_iconst dX1_addAsIs_34 (n := 35) rfl ?_
      refine z_iadd dX1_addAsIs_35 (n := 36) rfl ?_
      refine z_putX dX1_addAsIs_36 (n := 39) rfl (XL1 hk) fw_X1_21 (by first | decide | simp) (XL3 hk _) ?_
      refine z_ret_v dX1_addAsIs_39 rfl ?_
      rfl
def Ls (xs : List Int) : Prop := ∀ y ∈ xs, 0 ≤ y ∧ y < 12
theorem Ls.nil : Ls [] := fun y h => by cases h
theorem Ls.rd {xs : List Int} {l : Int} (h : Ls xs) (h0 : 0 ≤ l) (h1 : l < 12) : Ls (red xs l) := by
  intro y hy
  unfold red at hy
  split at hy
  · exact h y ((List.dropLast_sublist xs).subset hy)
  · rcases List.mem_append.mp hy with hy | hy
    · exact h y hy
    · rw [List.mem_singleton.mp hy]; exact ⟨h0, h1⟩
theorem Ls.fold {ls : List Int} (h2 : Ls ls) : ∀ {xs : List Int}, Ls xs → Ls (ls.foldl red xs) := by
  induction ls with
  | nil => intro xs h; exact h
  | cons a t ih =>
    intro xs h
    have ha := h2 a List.mem_cons_self
    exact ih (fun y hy => h2 y (List.mem_cons_of_mem _ hy)) (h.rd ha.1 ha.2)
theorem LR.mem {n : Int} {f : Int → Int} {xs : List Int} (h : LR n f xs) {i : Int} (h0 : 0 ≤ i) (h1 : i < n) : f i ∈ xs := by
  rw [h.get h0 h1]
  have hl : i.toNat < xs.length := by have := h.1; omega
  rw [List.getD_eq_getElem?_getD, List.getElem?_eq_getElem hl]
  exact List.getElem_mem hl
theorem LR.mid {n : Int} {f : Int → Int} {pre t : List Int} {a : Int} (h : LR n f (pre ++ a :: t)) : f pre.length = a := by
  have := h.2 pre.length (by simp)
  rw [this]
  simp
theorem LR.len {n : Int} {f : Int → Int} {xs : List Int} (h : LR n f xs) : n = xs.length := h.1
set_option maxHeartbeats 4000000 in
theorem c_X1_addReduced {G : zG} {sz : zSz} {ar : zAr} {k : Nat} {l : Int} {xs : List Int} (hk : isL k) (h0 : 0 ≤ l) (h1 : l < 12) (hL : LR (sz k 1) (ar (k + 1)) xs) (hx : Ls xs) (hs : xs.length < cap k)  : zSem G mX1_addReduced 1 [zR k, zI l] (X sz ar) (zpv fun u => zLP k (red xs l) sz ar u) := by
  refine z_enter (L' := [some (zR k), some (zI l)]) (by decide +kernel) (Nat.le_of_ble_eq_true rfl) ⟨0, rfl⟩ ?_
  have hc := cap_r k
  have hn := hL.1
  have hi := inv_lt (n := 6) h0 (by omega)
  have hi0 := inv_0 h0
  refine z_aload_0 dX1_addReduced_0 (n := 1) rfl ?_
  refine z_get dX1_addReduced_1 (n := 4) rfl (XL1 hk) fd_X1_21 rfl ?_
  refine z_if_le dX1_addReduced_4 (n := 7) (tg := 37) rfl (by decide) (by first | assumption | exact ⟨by omega, by omega⟩ | exact zb_zr _) (fun c4 => ?_) (fun c4 => ?_)
  · refine z_aload_0 dX1_addReduced_37 (n := 38) rfl ?_
    refine z_iload_1 dX1_addReduced_38 (n := 39) rfl ?_
    refine z_callV1v dX1_addReduced_39 (n := 42) rfl mv_X1_addAsIs lk_X1_32 (XL1 hk) (zrm (by decide) (by decide)) (Nat.le_of_ble_eq_true rfl) (c_X1_addAsIs hk (by omega) (by omega)) (fun u hp => ?_)
    subst hp
    refine z_ret_v dX1_addReduced_42 rfl ?_
    first | exact ⟨_, _, rfl, by rw [zz_eq]; exact hL.red1 (by omega) (by assumption), fun j hj => zz_ne hj, fun j hj => rfl⟩ | exact ⟨_, _, rfl, by rw [zz_eq, zq_eq]; exact hL.red2 (by first | (left; omega) | (right; assumption)), fun j hj => zz_ne hj, fun j hj => zq_ne hj⟩
  · refine z_aload_0 dX1_addReduced_7 (n := 8) rfl ?_
    refine z_aload_0 dX1_addReduced_8 (n := 9) rfl ?_
    refine z_get dX1_addReduced_9 (n := 12) rfl (XL1 hk) fd_X1_21 rfl ?_
    refine z_iconst dX1_addReduced_12 (n := 13) rfl ?_
    refine z_isub dX1_addReduced_13 (n := 14) rfl ?_
    refine z_callV1i dX1_addReduced_14 (n := 17) rfl mv_X1_at lk_X1_25 (XL1 hk) (zrm (by decide) (by decide)) (Nat.le_of_ble_eq_true rfl) (c_X1_at hk (by first | assumption | exact ⟨by omega, by omega⟩ | exact zb_zr _) (by omega) (by omega)) (fun r u hp => ?_)
    obtain ⟨rfl, rfl⟩ := hp
    rw [if_pos (by omega)]
    have hy := hx _ (hL.mem (i := sz k 1 - 1) (by omega) (by omega))
    refine z_iload_1 dX1_addReduced_17 (n := 18) rfl ?_
    refine z_callN1i dX1_addReduced_18 (n := 21) rfl ms_X6_inverseOf lk_X1_29 (zrm (by decide) (by decide)) (Nat.le_of_ble_eq_true rfl) (c_X6_inverseOf (by omega)) (fun r u hp => ?_)
    obtain ⟨rfl, rfl⟩ := hp
    refine z_icmp_ne dX1_addReduced_21 (n := 24) (tg := 37) rfl (by decide) (by first | assumption | exact ⟨by omega, by omega⟩ | exact zb_zr _) (by first | assumption | exact ⟨by omega, by omega⟩ | exact zb_zr _) (fun c21 => ?_) (fun c21 => ?_)
    · refine z_aload_0 dX1_addReduced_37 (n := 38) rfl ?_
      refine z_iload_1 dX1_addReduced_38 (n := 39) rfl ?_
      refine z_callV1v dX1_addReduced_39 (n := 42) rfl mv_X1_addAsIs lk_X1_32 (XL1 hk) (zrm (by decide) (by decide)) (Nat.le_of_ble_eq_true rfl) (c_X1_addAsIs hk (by omega) (by omega)) (fun u hp => ?_)
      subst hp
      refine z_ret_v dX1_addReduced_42 rfl ?_
      first | exact ⟨_, _, rfl, by rw [zz_eq]; exact hL.red1 (by omega) (by assumption), fun j hj => zz_ne hj, fun j hj => rfl⟩ | exact ⟨_, _, rfl, by rw [zz_eq, zq_eq]; exact hL.red2 (by first | (left; omega) | (right; assumption)), fun j hj => zz_ne hj, fun j hj => zq_ne hj⟩
    · refine z_aload_0 dX1_addReduced_24 (n := 25) rfl ?_
      refine z_dup dX1_addReduced_25 (n := 26) rfl rfl ?_
      refine z_get dX1_addReduced_26 (n := 29) rfl (XL1 hk) fd_X1_21 rfl ?_
      refine z_iconst dX1_addReduced_29 (n := 30) rfl ?_
      refine z_isub dX1_addReduced_30 (n := 31) rfl ?_
      refine z_putX dX1_addReduced_31 (n := 34) rfl (XL1 hk) fw_X1_21 (by first | decide | simp) (XL3 hk _) ?_
      refine z_goto dX1_addReduced_34 (n := 42) (by decide) ?_
      refine z_ret_v dX1_addReduced_42 rfl ?_
      first | exact ⟨_, _, rfl, by rw [zz_eq]; exact hL.red1 (by omega) (by assumption), fun j hj => zz_ne hj, fun j hj => rfl⟩ | exact ⟨_, _, rfl, by rw [zz_eq, zq_eq]; exact hL.red2 (by first | (left; omega) | (right; assumption)), fun j hj => zz_ne hj, fun j hj => zq_ne hj⟩
theorem Fr.L {k j : Nat} {sz sz' : zSz} {ar ar' : zAr} {xs : List Int} (h : Fr k sz ar sz' ar') (hk : isL k) (hj : isL j) (hjk : j ≠ k) (hL : LR (sz j 1) (ar (j + 1)) xs) : LR (sz' j 1) (ar' (j + 1)) xs := by
  rw [h.1 j hjk, h.2 (j + 1) (by omega)]
  exact hL
set_option maxHeartbeats 4000000 in
theorem lo_X1_addAll {G : zG} {sz : zSz} {ar : zAr} {k j : Nat} {ys : List Int} (hk : isL k) (hj : isL j) (hjk : j ≠ k) (hY : LR (sz j 1) (ar (j + 1)) ys) (hy : Ls ys) (hyc : ys.length ≤ cap j) :
    ∀ (rest pre acc : List Int) (sz' : zSz) (ar' : zAr), ys = pre ++ rest → LR (sz' k 1) (ar' (k + 1)) acc → Ls acc → acc.length + rest.length ≤ cap k → Fr k sz ar sz' ar' →
    zWP G mX1_addAll 2 (zpv (zLP k (rest.foldl red acc) sz ar)) 2 [some (zR k), some (zR j), some (zI pre.length)] [] (X sz' ar') := by
  have hc := cap_r k
  have hc2 := cap_r j
  intro rest
  induction rest with
  | nil =>
    intro pre acc sz' ar' e hL hA hcap hF
    have hY' := hF.L hk hj hjk hY
    have hn := hY'.1
    have el : ys.length = pre.length := by rw [e]; simp
    refine z_iload_2 dX1_addAll_2 (n := 3) rfl ?_
    refine z_aload_1 dX1_addAll_3 (n := 4) rfl ?_
    refine z_get dX1_addAll_4 (n := 7) rfl (XL1 hj) fd_X1_21 rfl ?_
    refine z_icmp_ge dX1_addAll_7 (n := 10) (tg := 25) rfl (by decide) (by first | assumption | exact ⟨by omega, by omega⟩ | exact zb_zr _) (by first | assumption | exact ⟨by omega, by omega⟩ | exact zb_zr _) (fun c7 => ?_) (fun c7 => ?_)
    · refine z_ret_v dX1_addAll_25 rfl ?_
      exact ⟨_, _, rfl, hL, hF⟩
    · exfalso; omega
  | cons a t ih =>
    intro pre acc sz' ar' e hL hA hcap hF
    have hY' := hF.L hk hj hjk hY
    have hn := hY'.1
    have el : ys.length = pre.length + (t.length + 1) := by rw [e]; simp
    have ha := hy a (by rw [e]; simp)
    have hla := red_len acc a
    have hm : ar' (j + 1) pre.length = a := LR.mid (t := t) (n := sz' j 1) (by rw [← e]; exact hY')
    simp only [List.length_cons] at hcap
    refine z_iload_2 dX1_addAll_2 (n := 3) rfl ?_
    refine z_aload_1 dX1_addAll_3 (n := 4) rfl ?_
    refine z_get dX1_addAll_4 (n := 7) rfl (XL1 hj) fd_X1_21 rfl ?_
    refine z_icmp_ge dX1_addAll_7 (n := 10) (tg := 25) rfl (by decide) (by first | assumption | exact ⟨by omega, by omega⟩ | exact zb_zr _) (by first | assumption | exact ⟨by omega, by omega⟩ | exact zb_zr _) (fun c7 => ?_) (fun c7 => ?_)
    · exfalso; omega
    · refine z_aload_0 dX1_addAll_10 (n := 11) rfl ?_
      refine z_aload_1 dX1_addAll_11 (n := 12) rfl ?_
      refine z_iload_2 dX1_addAll_12 (n := 13) rfl ?_
      refine z_callV1i dX1_addAll_13 (n := 16) rfl mv_X1_at lk_X1_25 (XL1 hj) (zrm (by decide) (by decide)) (Nat.le_of_ble_eq_true rfl) (c_X1_at hj (by first | assumption | exact ⟨by omega, by omega⟩ | exact zb_zr _) (by omega) (by omega)) (fun r u hp => ?_)
      obtain ⟨rfl, rfl⟩ := hp
      rw [if_pos (by omega), hm]
      refine z_callV1v dX1_addAll_16 (n := 19) rfl mv_X1_addReduced lk_X1_36 (XL1 hk) (zrm (by decide) (by decide)) (Nat.le_of_ble_eq_true rfl) (c_X1_addReduced hk ha.1 ha.2 hL hA (by omega)) (fun u hp => ?_)
      obtain ⟨sz2, ar2, rfl, hL2, hF2⟩ := hp
      refine z_iinc_2 dX1_addAll_19 (n := 22) rfl (by decide) (fun w h => by cases h; try rfl) ?_
      refine z_goto dX1_addAll_22 (n := 2) (by decide) ?_
      have h9 := ih (pre ++ [a]) (red acc a) sz2 ar2 (by rw [e]; simp) hL2 (hA.rd ha.1 ha.2) (by omega) (hF.tr hF2)
      rw [show ((pre ++ [a]).length : Int) = (pre.length : Int) + 1 by simp] at h9
      exact h9
set_option maxHeartbeats 4000000 in
theorem c_X1_addAll {G : zG} {sz : zSz} {ar : zAr} {k j : Nat} {xs ys : List Int} (hk : isL k) (hj : isL j) (hjk : j ≠ k) (hL : LR (sz k 1) (ar (k + 1)) xs) (hx : Ls xs) (hY : LR (sz j 1) (ar (j + 1)) ys) (hy : Ls ys) (hyc : ys.length ≤ cap j) (hs : xs.length + ys.length ≤ cap k)  : zSem G mX1_addAll 2 [zR k, zR j] (X sz ar) (zpv fun u => zLP k (ys.foldl red xs) sz ar u) := by
  refine z_enter (L' := [some (zR k), some (zR j), none]) (by decide +kernel) (Nat.le_of_ble_eq_true rfl) ⟨1, rfl⟩ ?_
  refine z_iconst dX1_addAll_0 (n := 1) rfl ?_
  refine z_istore_2 dX1_addAll_1 (n := 2) rfl (by decide) (fun w h => by cases h; try rfl) ?_
  exact lo_X1_addAll hk hj hjk hY hy hyc ys [] xs sz ar rfl hL hx hs Fr.rf
theorem getD_rev {xs : List Int} {i : Nat} (h : i < xs.length) : xs.getD i 0 = xs.reverse.getD (xs.length - 1 - i) 0 := by
  rw [List.getD_eq_getElem?_getD, List.getD_eq_getElem?_getD, List.getElem?_reverse (by omega)]
  congr 2
  omega
/-- the inverses of a word's letters from its last one back -/
def undone (ys : List Int) : List Int := (ys.map inv).reverse
theorem undone_cons (a : Int) (ys : List Int) : undone (ys ++ [a]) = inv a :: undone ys := by simp [undone]
theorem undone_len (ys : List Int) : (undone ys).length = ys.length := by simp [undone]
theorem Ls.un {ys : List Int} (h : Ls ys) : Ls (undone ys) := by
  intro y hy
  simp only [undone, List.mem_reverse, List.mem_map] at hy
  obtain ⟨z, hz, rfl⟩ := hy
  have := h z hz
  have h2 := inv_lt (n := 6) this.1 (by omega)
  exact ⟨inv_0 this.1, by omega⟩
set_option maxHeartbeats 4000000 in
theorem lo_X1_addUndone {G : zG} {sz : zSz} {ar : zAr} {k j : Nat} {ys : List Int} (hk : isL k) (hj : isL j) (hjk : j ≠ k) (hY : LR (sz j 1) (ar (j + 1)) ys) (hy : Ls ys) (hyc : ys.length ≤ cap j) :
    ∀ (m : Nat) (pre suf acc : List Int) (sz' : zSz) (ar' : zAr), ys = pre ++ suf → pre.length = m → LR (sz' k 1) (ar' (k + 1)) acc → Ls acc → acc.length + pre.length ≤ cap k → Fr k sz ar sz' ar' →
    zWP G mX1_addUndone 2 (zpv (zLP k ((undone pre).foldl red acc) sz ar)) 7 [some (zR k), some (zR j), some (zI (m - 1))] [] (X sz' ar') := by
  have hc := cap_r k
  have hc2 := cap_r j
  intro m
  induction m with
  | zero =>
    intro pre suf acc sz' ar' e hm hL hA hcap hF
    have hp : pre = [] := List.length_eq_zero_iff.mp hm
    subst hp
    refine z_iload_2 dX1_addUndone_7 (n := 8) rfl ?_
    refine z_if_lt dX1_addUndone_8 (n := 11) (tg := 29) rfl (by decide) (by first | assumption | exact ⟨by omega, by omega⟩ | exact zb_zr _) (fun c8 => ?_) (fun c8 => ?_)
    · refine z_ret_v dX1_addUndone_29 rfl ?_
      exact ⟨_, _, rfl, hL, hF⟩
    · exfalso; omega
  | succ m ih =>
    intro pre suf acc sz' ar' e hm hL hA hcap hF
    obtain ⟨p2, a, rfl⟩ : ∃ p2 a, pre = p2 ++ [a] := ⟨pre.dropLast, pre.getLast (by intro z; rw [z] at hm; cases hm), (List.dropLast_concat_getLast _).symm⟩
    have hm2 : p2.length = m := by simpa using hm
    have hY' := hF.L hk hj hjk hY
    have hn := hY'.1
    have el : ys.length = p2.length + (suf.length + 1) := by rw [e]; simp
    have ha := hy a (by rw [e]; simp)
    have hi := inv_lt (n := 6) ha.1 (by omega)
    have hi0 := inv_0 ha.1
    have hla := red_len acc (inv a)
    have hm3 : ar' (j + 1) m = a := by rw [← hm2]; exact LR.mid (t := suf) (n := sz' j 1) (by rw [e, List.append_assoc] at hY'; exact hY')
    have e1 : ((m + 1 : Nat) : Int) - 1 = m := by omega
    rw [e1, undone_cons, List.foldl_cons]
    simp only [List.length_append, List.length_cons, List.length_nil] at hcap
    refine z_iload_2 dX1_addUndone_7 (n := 8) rfl ?_
    refine z_if_lt dX1_addUndone_8 (n := 11) (tg := 29) rfl (by decide) (by first | assumption | exact ⟨by omega, by omega⟩ | exact zb_zr _) (fun c8 => ?_) (fun c8 => ?_)
    · exfalso; omega
    · refine z_aload_0 dX1_addUndone_11 (n := 12) rfl ?_
      refine z_aload_1 dX1_addUndone_12 (n := 13) rfl ?_
      refine z_iload_2 dX1_addUndone_13 (n := 14) rfl ?_
      refine z_callV1i dX1_addUndone_14 (n := 17) rfl mv_X1_at lk_X1_25 (XL1 hj) (zrm (by decide) (by decide)) (Nat.le_of_ble_eq_true rfl) (c_X1_at hj (by first | assumption | exact ⟨by omega, by omega⟩ | exact zb_zr _) (by omega) (by omega)) (fun r u hp => ?_)
      obtain ⟨rfl, rfl⟩ := hp
      rw [if_pos (by omega), hm3]
      refine z_callN1i dX1_addUndone_17 (n := 20) rfl ms_X6_inverseOf lk_X1_29 (zrm (by decide) (by decide)) (Nat.le_of_ble_eq_true rfl) (c_X6_inverseOf (by omega)) (fun r u hp => ?_)
      obtain ⟨rfl, rfl⟩ := hp
      refine z_callV1v dX1_addUndone_20 (n := 23) rfl mv_X1_addReduced lk_X1_36 (XL1 hk) (zrm (by decide) (by decide)) (Nat.le_of_ble_eq_true rfl) (c_X1_addReduced hk hi0 (by omega) hL hA (by omega)) (fun u hp => ?_)
      obtain ⟨sz2, ar2, rfl, hL2, hF2⟩ := hp
      refine z_iinc_2 dX1_addUndone_23 (n := 26) rfl (by decide) (fun w h => by cases h; try rfl) ?_
      refine z_goto dX1_addUndone_26 (n := 7) (by decide) ?_
      exact ih p2 (a :: suf) (red acc (inv a)) sz2 ar2 (by rw [e]; simp) hm2 hL2 (hA.rd hi0 (by omega)) (by omega) (hF.tr hF2)
set_option maxHeartbeats 4000000 in
theorem c_X1_addUndone {G : zG} {sz : zSz} {ar : zAr} {k j : Nat} {xs ys : List Int} (hk : isL k) (hj : isL j) (hjk : j ≠ k) (hL : LR (sz k 1) (ar (k + 1)) xs) (hx : Ls xs) (hY : LR (sz j 1) (ar (j + 1)) ys) (hy : Ls ys) (hyc : ys.length ≤ cap j) (hs : xs.length + ys.length ≤ cap k)  : zSem G mX1_addUndone 2 [zR k, zR j] (X sz ar) (zpv fun u => zLP k ((undone ys).foldl red xs) sz ar u) := by
  refine z_enter (L' := [some (zR k), some (zR j), none]) (by decide +kernel) (Nat.le_of_ble_eq_true rfl) ⟨1, rfl⟩ ?_
  refine z_aload_1 dX1_addUndone_0 (n := 1) rfl ?_
  refine z_get dX1_addUndone_1 (n := 4) rfl (XL1 hj) fd_X1_21 rfl ?_
  refine z_iconst dX1_addUndone_4 (n := 5) rfl ?_
  refine z_isub dX1_addUndone_5 (n := 6) rfl ?_
  refine z_istore_2 dX1_addUndone_6 (n := 7) rfl (by decide) (fun w h => by cases h; try rfl) ?_
  rw [hY.1]
  exact lo_X1_addUndone hk hj hjk hY hy hyc ys.length ys [] xs sz ar (by simp) rfl hL hx hs Fr.rf
set_option maxHeartbeats 4000000 in
theorem lo_X1_copyFrom {G : zG} {sz : zSz} {ar : zAr} {k j : Nat} {ys : List Int} (hk : isL k) (hj : isL j) (hjk : j ≠ k) (hY : LR (sz j 1) (ar (j + 1)) ys) (hyc : ys.length ≤ cap j) (hs : ys.length ≤ cap k) :
    ∀ (rest pre : List Int) (sz' : zSz) (ar' : zAr), ys = pre ++ rest → LR (sz' k 1) (ar' (k + 1)) pre → Fr k sz ar sz' ar' →
    zWP G mX1_copyFrom 2 (zpv (zLP k ys sz ar)) 7 [some (zR k), some (zR j), some (zI pre.length)] [] (X sz' ar') := by
  have hc := cap_r k
  have hc2 := cap_r j
  intro rest
  induction rest with
  | nil =>
    intro pre sz' ar' e hL hF
    have hY' := hF.L hk hj hjk hY
    have hn := hY'.1
    have el : ys = pre := by rw [e]; simp
    subst el
    refine z_iload_2 dX1_copyFrom_7 (n := 8) rfl ?_
    refine z_aload_1 dX1_copyFrom_8 (n := 9) rfl ?_
    refine z_get dX1_copyFrom_9 (n := 12) rfl (XL1 hj) fd_X1_21 rfl ?_
    refine z_icmp_ge dX1_copyFrom_12 (n := 15) (tg := 30) rfl (by decide) (by first | assumption | exact ⟨by omega, by omega⟩ | exact zb_zr _) (by first | assumption | exact ⟨by omega, by omega⟩ | exact zb_zr _) (fun c12 => ?_) (fun c12 => ?_)
    · refine z_ret_v dX1_copyFrom_30 rfl ?_
      exact ⟨_, _, rfl, hL, hF⟩
    · exfalso; omega
  | cons a t ih =>
    intro pre sz' ar' e hL hF
    have hY' := hF.L hk hj hjk hY
    have hn := hY'.1
    have hn2 := hL.1
    have el : ys.length = pre.length + (t.length + 1) := by rw [e]; simp
    have hm : ar' (j + 1) pre.length = a := LR.mid (t := t) (n := sz' j 1) (by rw [← e]; exact hY')
    refine z_iload_2 dX1_copyFrom_7 (n := 8) rfl ?_
    refine z_aload_1 dX1_copyFrom_8 (n := 9) rfl ?_
    refine z_get dX1_copyFrom_9 (n := 12) rfl (XL1 hj) fd_X1_21 rfl ?_
    refine z_icmp_ge dX1_copyFrom_12 (n := 15) (tg := 30) rfl (by decide) (by first | assumption | exact ⟨by omega, by omega⟩ | exact zb_zr _) (by first | assumption | exact ⟨by omega, by omega⟩ | exact zb_zr _) (fun c12 => ?_) (fun c12 => ?_)
    · exfalso; omega
    · refine z_aload_0 dX1_copyFrom_15 (n := 16) rfl ?_
      refine z_aload_1 dX1_copyFrom_16 (n := 17) rfl ?_
      refine z_iload_2 dX1_copyFrom_17 (n := 18) rfl ?_
      refine z_callV1i dX1_copyFrom_18 (n := 21) rfl mv_X1_at lk_X1_25 (XL1 hj) (zrm (by decide) (by decide)) (Nat.le_of_ble_eq_true rfl) (c_X1_at hj (by first | assumption | exact ⟨by omega, by omega⟩ | exact zb_zr _) (by omega) (by omega)) (fun r u hp => ?_)
      obtain ⟨rfl, rfl⟩ := hp
      rw [if_pos (by omega), hm]
      refine z_callV1v dX1_copyFrom_21 (n := 24) rfl mv_X1_addAsIs lk_X1_32 (XL1 hk) (zrm (by decide) (by decide)) (Nat.le_of_ble_eq_true rfl) (c_X1_addAsIs hk (by omega) (by omega)) (fun u hp => ?_)
      subst hp
      refine z_iinc_2 dX1_copyFrom_24 (n := 27) rfl (by decide) (fun w h => by cases h; try rfl) ?_
      refine z_goto dX1_copyFrom_27 (n := 7) (by decide) ?_
      have h9 := ih (pre ++ [a]) _ _ (by rw [e]; simp) (by rw [zz_eq, zq_eq]; exact hL.add) (hF.tr ⟨fun i hi => zz_ne hi, fun i hi => zq_ne hi⟩)
      rw [show ((pre ++ [a]).length : Int) = (pre.length : Int) + 1 by simp] at h9
      exact h9
set_option maxHeartbeats 4000000 in
theorem c_X1_copyFrom {G : zG} {sz : zSz} {ar : zAr} {k j : Nat} {ys : List Int} (hk : isL k) (hj : isL j) (hjk : j ≠ k) (hY : LR (sz j 1) (ar (j + 1)) ys) (hyc : ys.length ≤ cap j) (hs : ys.length ≤ cap k)  : zSem G mX1_copyFrom 2 [zR k, zR j] (X sz ar) (zpv fun u => zLP k ys sz ar u) := by
  refine z_enter (L' := [some (zR k), some (zR j), none]) (by decide +kernel) (Nat.le_of_ble_eq_true rfl) ⟨1, rfl⟩ ?_
  refine z_aload_0 dX1_copyFrom_0 (n := 1) rfl ?_
  refine z_iconst dX1_copyFrom_1 (n := 2) rfl ?_
  refine z_putX dX1_copyFrom_2 (n := 5) rfl (XL1 hk) fw_X1_21 (by first | decide | simp) (XL3 hk _) ?_
  refine z_iconst dX1_copyFrom_5 (n := 6) rfl ?_
  refine z_istore_2 dX1_copyFrom_6 (n := 7) rfl (by decide) (fun w h => by cases h; try rfl) ?_
  exact lo_X1_copyFrom hk hj hjk hY hyc hs ys [] _ _ rfl (by rw [zz_eq]; exact LR.nil) ⟨fun i hi => zz_ne hi, fun i hi => rfl⟩
