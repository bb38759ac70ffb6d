/-! Page, Seen, Draws -/
theorem kindB_at {k : Int} (h0 : 0 ≤ k) (h1 : k < 5) : kindB (ks k) = k := by
  have : k = 0 ∨ k = 1 ∨ k = 2 ∨ k = 3 ∨ k = 4 := by omega
  rcases this with rfl | rfl | rfl | rfl | rfl <;> rfl
theorem kindB_no {c : Int} (h : ∀ j : Int, 0 ≤ j → j < 5 → ks j ≠ c) : kindB c = -1 := by
  have a0 := h 0 (by omega) (by omega)
  have a1 := h 1 (by omega) (by omega)
  have a2 := h 2 (by omega) (by omega)
  have a3 := h 3 (by omega) (by omega)
  have a4 := h 4 (by omega) (by omega)
  rw [show ks 0 = 115 from rfl] at a0
  rw [show ks 1 = 102 from rfl] at a1
  rw [show ks 2 = 119 from rfl] at a2
  rw [show ks 3 = 114 from rfl] at a3
  rw [show ks 4 = 111 from rfl] at a4
  unfold kindB
  rw [if_neg (by omega), if_neg (by omega), if_neg (by omega), if_neg (by omega), if_neg (by omega)]
set_option maxHeartbeats 4000000 in
theorem c_X2_kindOfCode {G : zG} {sz : zSz} {ar : zAr} {c : Int} (hc : zr c)  : zSem G mX2_kindOfCode 4 [zI c] (X sz ar) (zpi fun r u => r = kindB c ∧ u = X sz ar) := by
  refine z_enter (L' := [some (zI c), none]) (by decide +kernel) (Nat.le_of_ble_eq_true rfl) ⟨1, rfl⟩ ?_
  have HO : ∀ (m k : Nat), k + m = 5 → (∀ j : Int, 0 ≤ j → j < k → ks j ≠ c) → zWP G mX2_kindOfCode 4 (zpi fun r u => r = kindB c ∧ u = X sz ar) 2 [some (zI c), some (zI k)] [] (X sz ar) := by
    intro m
    induction m with
    | zero =>
      intro k hk h
      have ek : k = 5 := by omega
      subst ek
      refine z_iload_1 dX2_kindOfCode_2 (n := 3) rfl ?_
      refine z_ldcS dX2_kindOfCode_3 (n := 5) rfl rfl ?_
      refine z_callT0 dX2_kindOfCode_5 (n := 8) rfl me_J0_length_8abf5 rfl iv_J0_length_8abf5 lk_X2_47 (zrm (by decide) (by decide)) (Nat.le_of_ble_eq_true rfl) (c_J0_length) (fun r u hp => ?_)
      obtain ⟨rfl, rfl⟩ := hp
      refine z_icmp_ge dX2_kindOfCode_8 (n := 11) (tg := 29) rfl (by decide) (by first | assumption | exact ⟨by omega, by omega⟩ | exact zb_zr _) (by first | assumption | exact ⟨by omega, by omega⟩ | exact zb_zr _) (fun c8 => ?_) (fun c8 => ?_)
      · refine z_iconst dX2_kindOfCode_29 (n := 30) rfl ?_
        refine z_ret_i dX2_kindOfCode_30 rfl ?_
        exact ⟨(kindB_no (fun j a b => h j a (by omega))).symm, rfl⟩
      · exfalso; omega
    | succ m ih =>
      intro k hk h
      have hr := ks_r k
      refine z_iload_1 dX2_kindOfCode_2 (n := 3) rfl ?_
      refine z_ldcS dX2_kindOfCode_3 (n := 5) rfl rfl ?_
      refine z_callT0 dX2_kindOfCode_5 (n := 8) rfl me_J0_length_8abf5 rfl iv_J0_length_8abf5 lk_X2_47 (zrm (by decide) (by decide)) (Nat.le_of_ble_eq_true rfl) (c_J0_length) (fun r u hp => ?_)
      obtain ⟨rfl, rfl⟩ := hp
      refine z_icmp_ge dX2_kindOfCode_8 (n := 11) (tg := 29) rfl (by decide) (by first | assumption | exact ⟨by omega, by omega⟩ | exact zb_zr _) (by first | assumption | exact ⟨by omega, by omega⟩ | exact zb_zr _) (fun c8 => ?_) (fun c8 => ?_)
      · exfalso; omega
      · refine z_ldcS dX2_kindOfCode_11 (n := 13) rfl rfl ?_
        refine z_iload_1 dX2_kindOfCode_13 (n := 14) rfl ?_
        refine z_callT1 dX2_kindOfCode_14 (n := 17) rfl me_J0_charAt_5068e rfl iv_J0_charAt_5068e lk_X2_52 (zrm (by decide) (by decide)) (Nat.le_of_ble_eq_true rfl) (c_J0_charAt (by omega) (by omega)) (fun r u hp => ?_)
        obtain ⟨rfl, rfl⟩ := hp
        refine z_iload_0 dX2_kindOfCode_17 (n := 18) rfl ?_
        refine z_icmp_ne dX2_kindOfCode_18 (n := 21) (tg := 23) rfl (by decide) (by first | assumption | exact ⟨by omega, by omega⟩ | exact zb_zr _) (by first | assumption | exact ⟨by omega, by omega⟩ | exact zb_zr _) (fun c18 => ?_) (fun c18 => ?_)
        · refine z_iinc_1 dX2_kindOfCode_23 (n := 26) rfl (by decide) (fun w h => by cases h; try rfl) ?_
          refine z_goto dX2_kindOfCode_26 (n := 2) (by decide) ?_
          have h9 := ih (k + 1) (by omega) (fun j a b => by by_cases e : j = k; (rw [e]; exact c18); exact h j a (by omega))
          rw [show ((k + 1 : Nat) : Int) = (k : Int) + 1 by omega] at h9
          exact h9
        · refine z_iload_1 dX2_kindOfCode_21 (n := 22) rfl ?_
          refine z_ret_i dX2_kindOfCode_22 rfl ?_
          exact ⟨by rw [← c18, kindB_at (by omega) (by omega)], rfl⟩
  refine z_iconst dX2_kindOfCode_0 (n := 1) rfl ?_
  refine z_istore_1 dX2_kindOfCode_1 (n := 2) rfl (by decide) (fun w h => by cases h; try rfl) ?_
  exact HO 5 0 (by omega) (fun j a b => by omega)
set_option maxHeartbeats 4000000 in
theorem c_X2_isDigit {G : zG} {sz : zSz} {ar : zAr} {c : Int} (hc : zr c)  : zSem G mX2_isDigit 0 [zI c] (X sz ar) (zpi fun r u => r = zb (48 ≤ c ∧ c < 54) ∧ u = X sz ar) := by
  refine z_enter (L' := [some (zI c)]) (by decide +kernel) (Nat.le_of_ble_eq_true rfl) ⟨0, rfl⟩ ?_
  refine z_iload_0 dX2_isDigit_0 (n := 1) rfl ?_
  refine z_bipush dX2_isDigit_1 (n := 3) rfl (by decide) ?_
  refine z_icmp_lt dX2_isDigit_3 (n := 6) (tg := 16) rfl (by decide) (by first | assumption | exact ⟨by omega, by omega⟩ | exact zb_zr _) (by first | assumption | exact ⟨by omega, by omega⟩ | exact zb_zr _) (fun c3 => ?_) (fun c3 => ?_)
  · refine z_iconst dX2_isDigit_16 (n := 17) rfl ?_
    refine z_ret_z dX2_isDigit_17 rfl (by first | exact Or.inl rfl | exact Or.inr rfl | exact zb_or _) ?_
    first | exact ⟨(zb_t (by omega)).symm, rfl⟩ | exact ⟨(zb_f (by omega)).symm, rfl⟩
  · refine z_iload_0 dX2_isDigit_6 (n := 7) rfl ?_
    refine z_bipush dX2_isDigit_7 (n := 9) rfl (by decide) ?_
    refine z_icmp_ge dX2_isDigit_9 (n := 12) (tg := 16) rfl (by decide) (by first | assumption | exact ⟨by omega, by omega⟩ | exact zb_zr _) (by first | assumption | exact ⟨by omega, by omega⟩ | exact zb_zr _) (fun c9 => ?_) (fun c9 => ?_)
    · refine z_iconst dX2_isDigit_16 (n := 17) rfl ?_
      refine z_ret_z dX2_isDigit_17 rfl (by first | exact Or.inl rfl | exact Or.inr rfl | exact zb_or _) ?_
      first | exact ⟨(zb_t (by omega)).symm, rfl⟩ | exact ⟨(zb_f (by omega)).symm, rfl⟩
    · refine z_iconst dX2_isDigit_12 (n := 13) rfl ?_
      refine z_goto dX2_isDigit_13 (n := 17) (by decide) ?_
      refine z_ret_z dX2_isDigit_17 rfl (by first | exact Or.inl rfl | exact Or.inr rfl | exact zb_or _) ?_
      first | exact ⟨(zb_t (by omega)).symm, rfl⟩ | exact ⟨(zb_f (by omega)).symm, rfl⟩
def fitP (i c : Int) : Prop := i < 23 ∧ ((i % 4 = 0 ∧ kindB c ≠ -1) ∨ (i % 4 = 3 ∧ c = 44) ∨ (i % 4 ≠ 0 ∧ i % 4 ≠ 3 ∧ (c = 45 ∨ (48 ≤ c ∧ c < 54))))
theorem z_off_df {ps : List (Int × Int)} {d a : Int} (h : ∀ q ∈ ps, q.1 ≠ a) : Op.lookupswitch.offset ps d a = d := by
  induction ps with
  | nil => rfl
  | cons q t ih =>
    have h1 := h q List.mem_cons_self
    have h2 := ih (fun r hr => h r (List.mem_cons_of_mem _ hr))
    simp [Op.lookupswitch.offset] at h2 ⊢
    first | (simp [h1, h2]; done) | (simp [h1, Ne.symm h1, h2]; done) | (rw [if_neg h1]; exact h2) | (rw [if_neg (Ne.symm h1)]; exact h2)
set_option maxHeartbeats 4000000 in
theorem c_X2_size {G : zG} {sz : zSz} {ar : zAr}  : zSem G mX2_size 0 [zR 1] (X sz ar) (zpi fun r u => r = sz 1 1 ∧ u = X sz ar) := by
  refine z_enter (L' := [some (zR 1)]) (by decide +kernel) (Nat.le_of_ble_eq_true rfl) ⟨0, rfl⟩ ?_
  refine z_aload_0 dX2_size_0 (n := 1) rfl ?_
  refine z_get dX2_size_1 (n := 4) rfl rfl fd_X2_15 rfl ?_
  refine z_ret_i dX2_size_4 rfl ?_
  exact ⟨rfl, rfl⟩
set_option maxHeartbeats 4000000 in
theorem c_X2_clear {G : zG} {sz : zSz} {ar : zAr}  : zSem G mX2_clear 0 [zR 1] (X sz ar) (zpv fun u => u = X (zz sz 1 1 0) ar) := by
  refine z_enter (L' := [some (zR 1)]) (by decide +kernel) (Nat.le_of_ble_eq_true rfl) ⟨0, rfl⟩ ?_
  refine z_aload_0 dX2_clear_0 (n := 1) rfl ?_
  refine z_iconst dX2_clear_1 (n := 2) rfl ?_
  refine z_putX dX2_clear_2 (n := 5) rfl rfl fw_X2_15 (by first | decide | simp) rfl ?_
  refine z_ret_v dX2_clear_5 rfl ?_
  rfl
set_option maxHeartbeats 4000000 in
theorem c_X2_codeAt {G : zG} {sz : zSz} {ar : zAr} {i : Int} (hi : zr i) (hp0 : 0 ≤ sz 1 1) (hp1 : sz 1 1 ≤ 24)  : zSem G mX2_codeAt 0 [zR 1, zI i] (X sz ar) (zpi fun r u => r = (if 0 ≤ i ∧ i < sz 1 1 then ar 2 i else -1) ∧ u = X sz ar) := by
  refine z_enter (L' := [some (zR 1), some (zI i)]) (by decide +kernel) (Nat.le_of_ble_eq_true rfl) ⟨0, rfl⟩ ?_
  refine z_iload_1 dX2_codeAt_0 (n := 1) rfl ?_
  refine z_if_lt dX2_codeAt_1 (n := 4) (tg := 30) rfl (by decide) (by first | assumption | exact ⟨by omega, by omega⟩ | exact zb_zr _) (fun c1 => ?_) (fun c1 => ?_)
  · refine z_iconst dX2_codeAt_30 (n := 31) rfl ?_
    refine z_ret_i dX2_codeAt_31 rfl ?_
    first | exact ⟨(if_pos (by omega)).symm, rfl⟩ | exact ⟨(if_neg (by omega)).symm, rfl⟩
  · refine z_iload_1 dX2_codeAt_4 (n := 5) rfl ?_
    refine z_aload_0 dX2_codeAt_5 (n := 6) rfl ?_
    refine z_get dX2_codeAt_6 (n := 9) rfl rfl fd_X2_15 rfl ?_
    refine z_icmp_ge dX2_codeAt_9 (n := 12) (tg := 30) rfl (by decide) (by first | assumption | exact ⟨by omega, by omega⟩ | exact zb_zr _) (by first | assumption | exact ⟨by omega, by omega⟩ | exact zb_zr _) (fun c9 => ?_) (fun c9 => ?_)
    · refine z_iconst dX2_codeAt_30 (n := 31) rfl ?_
      refine z_ret_i dX2_codeAt_31 rfl ?_
      first | exact ⟨(if_pos (by omega)).symm, rfl⟩ | exact ⟨(if_neg (by omega)).symm, rfl⟩
    · refine z_iload_1 dX2_codeAt_12 (n := 13) rfl ?_
      refine z_aload_0 dX2_codeAt_13 (n := 14) rfl ?_
      refine z_get dX2_codeAt_14 (n := 17) rfl rfl fd_X2_9 rfl ?_
      refine z_alen dX2_codeAt_17 (n := 18) rfl rfl (by decide) ?_
      refine z_icmp_ge dX2_codeAt_18 (n := 21) (tg := 30) rfl (by decide) (by first | assumption | exact ⟨by omega, by omega⟩ | exact zb_zr _) (by first | assumption | exact ⟨by omega, by omega⟩ | exact zb_zr _) (fun c18 => ?_) (fun c18 => ?_)
      · refine z_iconst dX2_codeAt_30 (n := 31) rfl ?_
        refine z_ret_i dX2_codeAt_31 rfl ?_
        first | exact ⟨(if_pos (by omega)).symm, rfl⟩ | exact ⟨(if_neg (by omega)).symm, rfl⟩
      · refine z_aload_0 dX2_codeAt_21 (n := 22) rfl ?_
        refine z_get dX2_codeAt_22 (n := 25) rfl rfl fd_X2_9 rfl ?_
        refine z_iload_1 dX2_codeAt_25 (n := 26) rfl ?_
        refine z_iald dX2_codeAt_26 (n := 27) rfl rfl (by omega) (by omega) (by decide) ?_
        refine z_goto dX2_codeAt_27 (n := 31) (by decide) ?_
        refine z_ret_i dX2_codeAt_31 rfl ?_
        first | exact ⟨(if_pos (by omega)).symm, rfl⟩ | exact ⟨(if_neg (by omega)).symm, rfl⟩
set_option maxHeartbeats 4000000 in
theorem c_X2_put {G : zG} {sz : zSz} {ar : zAr} {c : Int} (hp0 : 0 ≤ sz 1 1) (hp1 : sz 1 1 ≤ 24)  : zSem G mX2_put 0 [zR 1, zI c] (X sz ar) (zpi fun r u => (sz 1 1 < 24 → r = zb True ∧ u = X (zz sz 1 1 (sz 1 1 + 1)) (zq ar 2 (zf (ar 2) (sz 1 1) c))) ∧ (24 ≤ sz 1 1 → r = zb False ∧ u = X sz ar)) := by
  refine z_enter (L' := [some (zR 1), some (zI c)]) (by decide +kernel) (Nat.le_of_ble_eq_true rfl) ⟨0, rfl⟩ ?_
  refine z_aload_0 dX2_put_0 (n := 1) rfl ?_
  refine z_get dX2_put_1 (n := 4) rfl rfl fd_X2_15 rfl ?_
  refine z_if_lt dX2_put_4 (n := 7) (tg := 19) rfl (by decide) (by first | assumption | exact ⟨by omega, by omega⟩ | exact zb_zr _) (fun c4 => ?_) (fun c4 => ?_)
  · refine z_iconst dX2_put_19 (n := 20) rfl ?_
    refine z_ret_z dX2_put_20 rfl (by first | exact Or.inl rfl | exact Or.inr rfl | exact zb_or _) ?_
    first | exact ⟨fun _ => ⟨(zb_t trivial).symm, rfl⟩, fun _ => by omega⟩ | exact ⟨fun _ => by omega, fun _ => ⟨(zb_f (fun h => h)).symm, rfl⟩⟩
  · refine z_aload_0 dX2_put_7 (n := 8) rfl ?_
    refine z_get dX2_put_8 (n := 11) rfl rfl fd_X2_15 rfl ?_
    refine z_aload_0 dX2_put_11 (n := 12) rfl ?_
    refine z_get dX2_put_12 (n := 15) rfl rfl fd_X2_9 rfl ?_
    refine z_alen dX2_put_15 (n := 16) rfl rfl (by decide) ?_
    refine z_icmp_lt dX2_put_16 (n := 19) (tg := 21) rfl (by decide) (by first | assumption | exact ⟨by omega, by omega⟩ | exact zb_zr _) (by first | assumption | exact ⟨by omega, by omega⟩ | exact zb_zr _) (fun c16 => ?_) (fun c16 => ?_)
    · refine z_aload_0 dX2_put_21 (n := 22) rfl ?_
      refine z_get dX2_put_22 (n := 25) rfl rfl fd_X2_9 rfl ?_
      refine z_aload_0 dX2_put_25 (n := 26) rfl ?_
      refine z_get dX2_put_26 (n := 29) rfl rfl fd_X2_15 rfl ?_
      refine z_iload_1 dX2_put_29 (n := 30) rfl ?_
      refine z_iastX dX2_put_30 (n := 31) rfl rfl (by omega) (by omega) (by decide) rfl ?_
      refine z_aload_0 dX2_put_31 (n := 32) rfl ?_
      refine z_dup dX2_put_32 (n := 33) rfl rfl ?_
      refine z_get dX2_put_33 (n := 36) rfl rfl fd_X2_15 rfl ?_
      refine z_iconst dX2_put_36 (n := 37) rfl ?_
      refine z_iadd dX2_put_37 (n := 38) rfl ?_
      refine z_putX dX2_put_38 (n := 41) rfl rfl fw_X2_15 (by first | decide | simp) rfl ?_
      refine z_iconst dX2_put_41 (n := 42) rfl ?_
      refine z_ret_z dX2_put_42 rfl (by first | exact Or.inl rfl | exact Or.inr rfl | exact zb_or _) ?_
      first | exact ⟨fun _ => ⟨(zb_t trivial).symm, rfl⟩, fun _ => by omega⟩ | exact ⟨fun _ => by omega, fun _ => ⟨(zb_f (fun h => h)).symm, rfl⟩⟩
    · refine z_iconst dX2_put_19 (n := 20) rfl ?_
      refine z_ret_z dX2_put_20 rfl (by first | exact Or.inl rfl | exact Or.inr rfl | exact zb_or _) ?_
      first | exact ⟨fun _ => ⟨(zb_t trivial).symm, rfl⟩, fun _ => by omega⟩ | exact ⟨fun _ => by omega, fun _ => ⟨(zb_f (fun h => h)).symm, rfl⟩⟩
set_option maxHeartbeats 4000000 in
theorem c_X2_fits {G : zG} {sz : zSz} {ar : zAr} {i c : Int} (hi0 : 0 ≤ i) (hi : zr i) (hc : zr c)  : zSem G mX2_fits 5 [zI i, zI c] (X sz ar) (zpi fun r u => r = zb (fitP i c) ∧ u = X sz ar) := by
  refine z_enter (L' := [some (zI i), some (zI c)]) (by decide +kernel) (Nat.le_of_ble_eq_true rfl) ⟨0, rfl⟩ ?_
  have hk := kindB_r c
  refine z_iload_0 dX2_fits_0 (n := 1) rfl ?_
  refine z_bipush dX2_fits_1 (n := 3) rfl (by decide) ?_
  refine z_icmp_lt dX2_fits_3 (n := 6) (tg := 8) rfl (by decide) (by first | assumption | exact ⟨by omega, by omega⟩ | exact zb_zr _) (by first | assumption | exact ⟨by omega, by omega⟩ | exact zb_zr _) (fun c3 => ?_) (fun c3 => ?_)
  · refine z_iload_0 dX2_fits_8 (n := 9) rfl ?_
    refine z_iconst dX2_fits_9 (n := 10) rfl ?_
    refine z_irem dX2_fits_10 (n := 11) rfl (by omega) (by omega) (by omega) (by omega) ?_
    refine z_by (0) (fun q11 => ?_) (fun q11_0 => ?_)
    · refine z_ls (off := 25) (tg := 36) dX2_fits_11 (by first | assumption | exact ⟨by omega, by omega⟩ | exact zb_zr _) (by decide) (by rw [q11]; rfl) (by decide) ?_
      refine z_iload_1 dX2_fits_36 (n := 37) rfl ?_
      refine z_callS1i dX2_fits_37 (n := 40) rfl ms_X2_kindOfCode lk_X2_38 (zrm (by decide) (by decide)) (Nat.le_of_ble_eq_true rfl) (c_X2_kindOfCode (by first | assumption | exact ⟨by omega, by omega⟩ | exact zb_zr _)) (fun r u hp => ?_)
      obtain ⟨rfl, rfl⟩ := hp
      refine z_iconst dX2_fits_40 (n := 41) rfl ?_
      refine z_icmp_eq dX2_fits_41 (n := 44) (tg := 48) rfl (by decide) (by first | assumption | exact ⟨by omega, by omega⟩ | exact zb_zr _) (by first | assumption | exact ⟨by omega, by omega⟩ | exact zb_zr _) (fun c41 => ?_) (fun c41 => ?_)
      · refine z_iconst dX2_fits_48 (n := 49) rfl ?_
        refine z_ret_z dX2_fits_49 rfl (by first | exact Or.inl rfl | exact Or.inr rfl | exact zb_or _) ?_
        first | exact ⟨(zb_t (by unfold fitP; omega)).symm, rfl⟩ | exact ⟨(zb_f (by unfold fitP; omega)).symm, rfl⟩
      · refine z_iconst dX2_fits_44 (n := 45) rfl ?_
        refine z_goto dX2_fits_45 (n := 49) (by decide) ?_
        refine z_ret_z dX2_fits_49 rfl (by first | exact Or.inl rfl | exact Or.inr rfl | exact zb_or _) ?_
        first | exact ⟨(zb_t (by unfold fitP; omega)).symm, rfl⟩ | exact ⟨(zb_f (by unfold fitP; omega)).symm, rfl⟩
    · skip
      refine z_by (3) (fun q11 => ?_) (fun q11_3 => ?_)
      · refine z_ls (off := 39) (tg := 50) dX2_fits_11 (by first | assumption | exact ⟨by omega, by omega⟩ | exact zb_zr _) (by decide) (by rw [q11]; rfl) (by decide) ?_
        refine z_iload_1 dX2_fits_50 (n := 51) rfl ?_
        refine z_bipush dX2_fits_51 (n := 53) rfl (by decide) ?_
        refine z_icmp_ne dX2_fits_53 (n := 56) (tg := 60) rfl (by decide) (by first | assumption | exact ⟨by omega, by omega⟩ | exact zb_zr _) (by first | assumption | exact ⟨by omega, by omega⟩ | exact zb_zr _) (fun c53 => ?_) (fun c53 => ?_)
        · refine z_iconst dX2_fits_60 (n := 61) rfl ?_
          refine z_ret_z dX2_fits_61 rfl (by first | exact Or.inl rfl | exact Or.inr rfl | exact zb_or _) ?_
          first | exact ⟨(zb_t (by unfold fitP; omega)).symm, rfl⟩ | exact ⟨(zb_f (by unfold fitP; omega)).symm, rfl⟩
        · refine z_iconst dX2_fits_56 (n := 57) rfl ?_
          refine z_goto dX2_fits_57 (n := 61) (by decide) ?_
          refine z_ret_z dX2_fits_61 rfl (by first | exact Or.inl rfl | exact Or.inr rfl | exact zb_or _) ?_
          first | exact ⟨(zb_t (by unfold fitP; omega)).symm, rfl⟩ | exact ⟨(zb_f (by unfold fitP; omega)).symm, rfl⟩
      · skip
        refine z_ls (off := 51) (tg := 62) dX2_fits_11 (by first | assumption | exact ⟨by omega, by omega⟩ | exact zb_zr _) (by decide) (z_off_df (by simp; omega)) (by decide) ?_
        refine z_iload_1 dX2_fits_62 (n := 63) rfl ?_
        refine z_bipush dX2_fits_63 (n := 65) rfl (by decide) ?_
        refine z_icmp_eq dX2_fits_65 (n := 68) (tg := 75) rfl (by decide) (by first | assumption | exact ⟨by omega, by omega⟩ | exact zb_zr _) (by first | assumption | exact ⟨by omega, by omega⟩ | exact zb_zr _) (fun c65 => ?_) (fun c65 => ?_)
        · refine z_iconst dX2_fits_75 (n := 76) rfl ?_
          refine z_goto dX2_fits_76 (n := 80) (by decide) ?_
          refine z_ret_z dX2_fits_80 rfl (by first | exact Or.inl rfl | exact Or.inr rfl | exact zb_or _) ?_
          first | exact ⟨(zb_t (by unfold fitP; omega)).symm, rfl⟩ | exact ⟨(zb_f (by unfold fitP; omega)).symm, rfl⟩
        · refine z_iload_1 dX2_fits_68 (n := 69) rfl ?_
          refine z_callS1i dX2_fits_69 (n := 72) rfl ms_X2_isDigit lk_X2_41 (zrm (by decide) (by decide)) (Nat.le_of_ble_eq_true rfl) (c_X2_isDigit (by first | assumption | exact ⟨by omega, by omega⟩ | exact zb_zr _)) (fun r u hp => ?_)
          obtain ⟨rfl, rfl⟩ := hp
          refine z_ifB_eq dX2_fits_72 (n := 75) (tg := 79) rfl (by decide) (fun c72 => ?_) (fun c72 => ?_)
          · refine z_iconst dX2_fits_79 (n := 80) rfl ?_
            refine z_ret_z dX2_fits_80 rfl (by first | exact Or.inl rfl | exact Or.inr rfl | exact zb_or _) ?_
            first | exact ⟨(zb_t (by unfold fitP; omega)).symm, rfl⟩ | exact ⟨(zb_f (by unfold fitP; omega)).symm, rfl⟩
          · refine z_iconst dX2_fits_75 (n := 76) rfl ?_
            refine z_goto dX2_fits_76 (n := 80) (by decide) ?_
            refine z_ret_z dX2_fits_80 rfl (by first | exact Or.inl rfl | exact Or.inr rfl | exact zb_or _) ?_
            first | exact ⟨(zb_t (by unfold fitP; omega)).symm, rfl⟩ | exact ⟨(zb_f (by unfold fitP; omega)).symm, rfl⟩
  · refine z_iconst dX2_fits_6 (n := 7) rfl ?_
    refine z_ret_z dX2_fits_7 rfl (by first | exact Or.inl rfl | exact Or.inr rfl | exact zb_or _) ?_
    first | exact ⟨(zb_t (by unfold fitP; omega)).symm, rfl⟩ | exact ⟨(zb_f (by unfold fitP; omega)).symm, rfl⟩
set_option maxHeartbeats 4000000 in
theorem c_X2_firstFault {G : zG} {sz : zSz} {ar : zAr} (hp0 : 0 ≤ sz 1 1) (hp1 : sz 1 1 ≤ 24) (hc : ∀ i, zr (ar 2 i))  : zSem G mX2_firstFault 6 [zR 1] (X sz ar) (zpi fun r u => r = ffG (fun i => ¬ fitP i (ar 2 i)) (sz 1 1).toNat 0 ∧ u = X sz ar) := by
  refine z_enter (L' := [some (zR 1), none]) (by decide +kernel) (Nat.le_of_ble_eq_true rfl) ⟨1, rfl⟩ ?_
  have HO : ∀ (m : Nat) (j : Int), 0 ≤ j → j + m = sz 1 1 → zWP G mX2_firstFault 6 (zpi fun r u => r = ffG (fun i => ¬ fitP i (ar 2 i)) m j ∧ u = X sz ar) 2 [some (zR 1), some (zI j)] [] (X sz ar) := by
    intro m
    induction m with
    | zero =>
      intro j hj0 hj
      have ej : sz 1 1 = j := by omega
      refine z_iload_1 dX2_firstFault_2 (n := 3) rfl ?_
      refine z_aload_0 dX2_firstFault_3 (n := 4) rfl ?_
      refine z_get dX2_firstFault_4 (n := 7) rfl rfl fd_X2_15 rfl ?_
      refine z_icmp_ge dX2_firstFault_7 (n := 10) (tg := 30) rfl (by decide) (by first | assumption | exact ⟨by omega, by omega⟩ | exact zb_zr _) (by first | assumption | exact ⟨by omega, by omega⟩ | exact zb_zr _) (fun c7 => ?_) (fun c7 => ?_)
      · refine z_aload_0 dX2_firstFault_30 (n := 31) rfl ?_
        refine z_get dX2_firstFault_31 (n := 34) rfl rfl fd_X2_15 rfl ?_
        refine z_ret_i dX2_firstFault_34 rfl ?_
        exact ⟨ej, rfl⟩
      · exfalso; omega
    | succ m ih =>
      intro j hj0 hj
      have h9 := ih (j + 1) (by omega) (by omega)
      refine z_iload_1 dX2_firstFault_2 (n := 3) rfl ?_
      refine z_aload_0 dX2_firstFault_3 (n := 4) rfl ?_
      refine z_get dX2_firstFault_4 (n := 7) rfl rfl fd_X2_15 rfl ?_
      refine z_icmp_ge dX2_firstFault_7 (n := 10) (tg := 30) rfl (by decide) (by first | exact hc _ | assumption | exact ⟨by omega, by omega⟩ | exact zb_zr _) (by first | exact hc _ | assumption | exact ⟨by omega, by omega⟩ | exact zb_zr _) (fun c7 => ?_) (fun c7 => ?_)
      · exfalso; omega
      · refine z_iload_1 dX2_firstFault_10 (n := 11) rfl ?_
        refine z_aload_0 dX2_firstFault_11 (n := 12) rfl ?_
        refine z_iload_1 dX2_firstFault_12 (n := 13) rfl ?_
        refine z_callV1i dX2_firstFault_13 (n := 16) rfl mv_X2_codeAt lk_X2_19 rfl (zrm (by decide) (by decide)) (Nat.le_of_ble_eq_true rfl) (c_X2_codeAt (by first | exact hc _ | assumption | exact ⟨by omega, by omega⟩ | exact zb_zr _) (by omega) (by omega)) (fun r u hp => ?_)
        obtain ⟨rfl, rfl⟩ := hp
        rw [if_pos (by omega)]
        refine z_callS2i dX2_firstFault_16 (n := 19) rfl ms_X2_fits lk_X2_23 (zrm (by decide) (by decide)) (Nat.le_of_ble_eq_true rfl) (c_X2_fits (by omega) (by first | exact hc _ | assumption | exact ⟨by omega, by omega⟩ | exact zb_zr _) (by first | exact hc _ | assumption | exact ⟨by omega, by omega⟩ | exact zb_zr _)) (fun r u hp => ?_)
        obtain ⟨rfl, rfl⟩ := hp
        refine z_ifB_ne dX2_firstFault_19 (n := 22) (tg := 24) rfl (by decide) (fun c19 => ?_) (fun c19 => ?_)
        · refine z_iinc_1 dX2_firstFault_24 (n := 27) rfl (by decide) (fun w h => by cases h; try rfl) ?_
          refine z_goto dX2_firstFault_27 (n := 2) (by decide) ?_
          rw [ffG_f (p := fun i => ¬ fitP i (ar 2 i)) (fun z => z c19)]
          exact h9
        · refine z_iload_1 dX2_firstFault_22 (n := 23) rfl ?_
          refine z_ret_i dX2_firstFault_23 rfl ?_
          exact ⟨(ffG_t (p := fun i => ¬ fitP i (ar 2 i)) c19).symm, rfl⟩
  refine z_iconst dX2_firstFault_0 (n := 1) rfl ?_
  refine z_istore_1 dX2_firstFault_1 (n := 2) rfl (by decide) (fun w h => by cases h; try rfl) ?_
  exact HO (sz 1 1).toNat 0 (by omega) (by omega)
set_option maxHeartbeats 4000000 in
theorem c_X2_statesTold {G : zG} {sz : zSz} {ar : zAr} (hp0 : 0 ≤ sz 1 1) (hp1 : sz 1 1 ≤ 24)  : zSem G mX2_statesTold 0 [zR 1] (X sz ar) (zpi fun r u => r = (sz 1 1 + 1) / 4 ∧ u = X sz ar) := by
  refine z_enter (L' := [some (zR 1)]) (by decide +kernel) (Nat.le_of_ble_eq_true rfl) ⟨0, rfl⟩ ?_
  refine z_aload_0 dX2_statesTold_0 (n := 1) rfl ?_
  refine z_get dX2_statesTold_1 (n := 4) rfl rfl fd_X2_15 rfl ?_
  refine z_iconst dX2_statesTold_4 (n := 5) rfl ?_
  refine z_iadd dX2_statesTold_5 (n := 6) rfl ?_
  refine z_iconst dX2_statesTold_6 (n := 7) rfl ?_
  refine z_idiv dX2_statesTold_7 (n := 8) rfl (by omega) (by omega) (by omega) (by omega) ?_
  refine z_ret_i dX2_statesTold_8 rfl ?_
  exact ⟨rfl, rfl⟩
def nxt (c : Int) : Int := if 48 ≤ c ∧ c < 54 then c - 48 else -1
theorem nxt_r (c : Int) : -1 ≤ nxt c ∧ nxt c ≤ 5 := by
  unfold nxt
  split <;> omega
set_option maxHeartbeats 4000000 in
theorem c_X2_kindTold {G : zG} {sz : zSz} {ar : zAr} {s : Int} (hp0 : 0 ≤ sz 1 1) (hp1 : sz 1 1 ≤ 24) (hc : ∀ i, zr (ar 2 i)) (hs0 : 0 ≤ s) (hs1 : 4 * s < sz 1 1)  : zSem G mX2_kindTold 5 [zR 1, zI s] (X sz ar) (zpi fun r u => r = kindB (ar 2 (4 * s)) ∧ u = X sz ar) := by
  refine z_enter (L' := [some (zR 1), some (zI s)]) (by decide +kernel) (Nat.le_of_ble_eq_true rfl) ⟨0, rfl⟩ ?_
  refine z_aload_0 dX2_kindTold_0 (n := 1) rfl ?_
  refine z_iconst dX2_kindTold_1 (n := 2) rfl ?_
  refine z_iload_1 dX2_kindTold_2 (n := 3) rfl ?_
  refine z_imul dX2_kindTold_3 (n := 4) rfl ?_
  refine z_callV1i dX2_kindTold_4 (n := 7) rfl mv_X2_codeAt lk_X2_19 rfl (zrm (by decide) (by decide)) (Nat.le_of_ble_eq_true rfl) (c_X2_codeAt (by first | exact hc _ | assumption | exact ⟨by omega, by omega⟩ | exact zb_zr _) (by omega) (by omega)) (fun r u hp => ?_)
  obtain ⟨rfl, rfl⟩ := hp
  rw [if_pos (by omega)]
  refine z_callS1i dX2_kindTold_7 (n := 10) rfl ms_X2_kindOfCode lk_X2_38 (zrm (by decide) (by decide)) (Nat.le_of_ble_eq_true rfl) (c_X2_kindOfCode (by first | exact hc _ | assumption | exact ⟨by omega, by omega⟩ | exact zb_zr _)) (fun r u hp => ?_)
  obtain ⟨rfl, rfl⟩ := hp
  refine z_ret_i dX2_kindTold_10 rfl ?_
  exact ⟨rfl, rfl⟩
set_option maxHeartbeats 4000000 in
theorem c_X2_nextTold {G : zG} {sz : zSz} {ar : zAr} {s b : Int} (hp0 : 0 ≤ sz 1 1) (hp1 : sz 1 1 ≤ 24) (hc : ∀ i, zr (ar 2 i)) (hs0 : 0 ≤ s) (hb0 : 0 ≤ b) (hb1 : b ≤ 1) (hs1 : 4 * s + 2 < sz 1 1)  : zSem G mX2_nextTold 1 [zR 1, zI s, zI b] (X sz ar) (zpi fun r u => r = nxt (ar 2 (4 * s + 1 + b)) ∧ u = X sz ar) := by
  refine z_enter (L' := [some (zR 1), some (zI s), some (zI b), none]) (by decide +kernel) (Nat.le_of_ble_eq_true rfl) ⟨1, rfl⟩ ?_
  refine z_aload_0 dX2_nextTold_0 (n := 1) rfl ?_
  refine z_iconst dX2_nextTold_1 (n := 2) rfl ?_
  refine z_iload_1 dX2_nextTold_2 (n := 3) rfl ?_
  refine z_imul dX2_nextTold_3 (n := 4) rfl ?_
  refine z_iconst dX2_nextTold_4 (n := 5) rfl ?_
  refine z_iadd dX2_nextTold_5 (n := 6) rfl ?_
  refine z_iload_2 dX2_nextTold_6 (n := 7) rfl ?_
  refine z_iadd dX2_nextTold_7 (n := 8) rfl ?_
  refine z_callV1i dX2_nextTold_8 (n := 11) rfl mv_X2_codeAt lk_X2_19 rfl (zrm (by decide) (by decide)) (Nat.le_of_ble_eq_true rfl) (c_X2_codeAt (by first | exact hc _ | assumption | exact ⟨by omega, by omega⟩ | exact zb_zr _) (by omega) (by omega)) (fun r u hp => ?_)
  obtain ⟨rfl, rfl⟩ := hp
  rw [if_pos (by omega)]
  refine z_istore_3 dX2_nextTold_11 (n := 12) rfl (by decide) (fun w h => by cases h; try rfl) ?_
  refine z_iload_3 dX2_nextTold_12 (n := 13) rfl ?_
  refine z_callS1i dX2_nextTold_13 (n := 16) rfl ms_X2_isDigit lk_X2_41 (zrm (by decide) (by decide)) (Nat.le_of_ble_eq_true rfl) (c_X2_isDigit (by first | exact hc _ | assumption | exact ⟨by omega, by omega⟩ | exact zb_zr _)) (fun r u hp => ?_)
  obtain ⟨rfl, rfl⟩ := hp
  refine z_ifB_eq dX2_nextTold_16 (n := 19) (tg := 26) rfl (by decide) (fun c16 => ?_) (fun c16 => ?_)
  · refine z_iconst dX2_nextTold_26 (n := 27) rfl ?_
    refine z_ret_i dX2_nextTold_27 rfl ?_
    first | exact ⟨(if_pos (by assumption)).symm, rfl⟩ | exact ⟨(if_neg (by assumption)).symm, rfl⟩
  · refine z_iload_3 dX2_nextTold_19 (n := 20) rfl ?_
    refine z_bipush dX2_nextTold_20 (n := 22) rfl (by decide) ?_
    refine z_isub dX2_nextTold_22 (n := 23) rfl ?_
    refine z_goto dX2_nextTold_23 (n := 27) (by decide) ?_
    refine z_ret_i dX2_nextTold_27 rfl ?_
    first | exact ⟨(if_pos (by assumption)).symm, rfl⟩ | exact ⟨(if_neg (by assumption)).symm, rfl⟩
/-- a page is a machine: as the class tells it -/
def isM (p : Int) (c : Int → Int) : Prop := p % 4 = 3 ∧ ¬ ffG (fun i => ¬ fitP i (c i)) p.toNat 0 < p ∧ ∀ s, 0 ≤ s → s < (p + 1) / 4 → nxt (c (4 * s + 1)) < (p + 1) / 4 ∧ nxt (c (4 * s + 2)) < (p + 1) / 4
set_option maxHeartbeats 4000000 in
theorem c_X2_isMachine {G : zG} {sz : zSz} {ar : zAr} (hp0 : 0 ≤ sz 1 1) (hp1 : sz 1 1 ≤ 24) (hc : ∀ i, zr (ar 2 i))  : zSem G mX2_isMachine 7 [zR 1] (X sz ar) (zpi fun r u => r = zb (isM (sz 1 1) (ar 2)) ∧ u = X sz ar) := by
  refine z_enter (L' := [some (zR 1), none, none]) (by decide +kernel) (Nat.le_of_ble_eq_true rfl) ⟨2, rfl⟩ ?_
  have HO : sz 1 1 % 4 = 3 → ¬ ffG (fun i => ¬ fitP i (ar 2 i)) (sz 1 1).toNat 0 < sz 1 1 → ∀ (m : Nat) (s : Int), 0 ≤ s → s + m = (sz 1 1 + 1) / 4 → (∀ i, 0 ≤ i → i < s → nxt (ar 2 (4 * i + 1)) < (sz 1 1 + 1) / 4 ∧ nxt (ar 2 (4 * i + 2)) < (sz 1 1 + 1) / 4) → zWP G mX2_isMachine 7 (zpi fun r u => r = zb (isM (sz 1 1) (ar 2)) ∧ u = X sz ar) 30 [some (zR 1), some (zI ((sz 1 1 + 1) / 4)), some (zI s)] [] (X sz ar) := by
    intro h1 h2 m
    induction m with
    | zero =>
      intro s hs0 hs h
      refine z_iload_2 dX2_isMachine_30 (n := 31) rfl ?_
      refine z_iload_1 dX2_isMachine_31 (n := 32) rfl ?_
      refine z_icmp_ge dX2_isMachine_32 (n := 35) (tg := 63) rfl (by decide) (by first | assumption | exact ⟨by omega, by omega⟩ | exact zb_zr _) (by first | assumption | exact ⟨by omega, by omega⟩ | exact zb_zr _) (fun c32 => ?_) (fun c32 => ?_)
      · refine z_iconst dX2_isMachine_63 (n := 64) rfl ?_
        refine z_ret_z dX2_isMachine_64 rfl (by first | exact Or.inl rfl | exact Or.inr rfl | exact zb_or _) ?_
        exact ⟨(zb_t ⟨h1, h2, fun i a b => h i a (by omega)⟩).symm, rfl⟩
      · exfalso; omega
    | succ m ih =>
      intro s hs0 hs h
      have n0 := nxt_r (ar 2 (4 * s + 1))
      have n1 := nxt_r (ar 2 (4 * s + 2))
      refine z_iload_2 dX2_isMachine_30 (n := 31) rfl ?_
      refine z_iload_1 dX2_isMachine_31 (n := 32) rfl ?_
      refine z_icmp_ge dX2_isMachine_32 (n := 35) (tg := 63) rfl (by decide) (by first | assumption | exact ⟨by omega, by omega⟩ | exact zb_zr _) (by first | assumption | exact ⟨by omega, by omega⟩ | exact zb_zr _) (fun c32 => ?_) (fun c32 => ?_)
      · exfalso; omega
      · refine z_aload_0 dX2_isMachine_35 (n := 36) rfl ?_
        refine z_iload_2 dX2_isMachine_36 (n := 37) rfl ?_
        refine z_iconst dX2_isMachine_37 (n := 38) rfl ?_
        refine z_callV2i dX2_isMachine_38 (n := 41) rfl mv_X2_nextTold lk_X2_34 rfl (zrm (by decide) (by decide)) (Nat.le_of_ble_eq_true rfl) (c_X2_nextTold (by omega) (by omega) hc (by omega) (by omega) (by omega) (by omega)) (fun r u hp => ?_)
        obtain ⟨rfl, rfl⟩ := hp
        rw [show 4 * s + 1 + 0 = 4 * s + 1 by omega]
        refine z_iload_1 dX2_isMachine_41 (n := 42) rfl ?_
        refine z_icmp_ge dX2_isMachine_42 (n := 45) (tg := 55) rfl (by decide) (by first | assumption | exact ⟨by omega, by omega⟩ | exact zb_zr _) (by first | assumption | exact ⟨by omega, by omega⟩ | exact zb_zr _) (fun c42 => ?_) (fun c42 => ?_)
        · refine z_iconst dX2_isMachine_55 (n := 56) rfl ?_
          refine z_ret_z dX2_isMachine_56 rfl (by first | exact Or.inl rfl | exact Or.inr rfl | exact zb_or _) ?_
          exact ⟨(zb_f (fun z => by have := z.2.2 s hs0 (by omega); omega)).symm, rfl⟩
        · refine z_aload_0 dX2_isMachine_45 (n := 46) rfl ?_
          refine z_iload_2 dX2_isMachine_46 (n := 47) rfl ?_
          refine z_iconst dX2_isMachine_47 (n := 48) rfl ?_
          refine z_callV2i dX2_isMachine_48 (n := 51) rfl mv_X2_nextTold lk_X2_34 rfl (zrm (by decide) (by decide)) (Nat.le_of_ble_eq_true rfl) (c_X2_nextTold (by omega) (by omega) hc (by omega) (by omega) (by omega) (by omega)) (fun r u hp => ?_)
          obtain ⟨rfl, rfl⟩ := hp
          rw [show 4 * s + 1 + 1 = 4 * s + 2 by omega]
          refine z_iload_1 dX2_isMachine_51 (n := 52) rfl ?_
          refine z_icmp_lt dX2_isMachine_52 (n := 55) (tg := 57) rfl (by decide) (by first | assumption | exact ⟨by omega, by omega⟩ | exact zb_zr _) (by first | assumption | exact ⟨by omega, by omega⟩ | exact zb_zr _) (fun c52 => ?_) (fun c52 => ?_)
          · refine z_iinc_2 dX2_isMachine_57 (n := 60) rfl (by decide) (fun w h => by cases h; try rfl) ?_
            refine z_goto dX2_isMachine_60 (n := 30) (by decide) ?_
            refine ih (s + 1) (by omega) (by omega) (fun i a b => ?_)
            by_cases e : i = s
            · rw [e]; exact ⟨c42, c52⟩
            · exact h i a (by omega)
          · refine z_iconst dX2_isMachine_55 (n := 56) rfl ?_
            refine z_ret_z dX2_isMachine_56 rfl (by first | exact Or.inl rfl | exact Or.inr rfl | exact zb_or _) ?_
            exact ⟨(zb_f (fun z => by have := z.2.2 s hs0 (by omega); omega)).symm, rfl⟩
  refine z_aload_0 dX2_isMachine_0 (n := 1) rfl ?_
  refine z_get dX2_isMachine_1 (n := 4) rfl rfl fd_X2_15 rfl ?_
  refine z_iconst dX2_isMachine_4 (n := 5) rfl ?_
  refine z_irem dX2_isMachine_5 (n := 6) rfl (by omega) (by omega) (by omega) (by omega) ?_
  refine z_iconst dX2_isMachine_6 (n := 7) rfl ?_
  refine z_icmp_ne dX2_isMachine_7 (n := 10) (tg := 21) rfl (by decide) (by first | assumption | exact ⟨by omega, by omega⟩ | exact zb_zr _) (by first | assumption | exact ⟨by omega, by omega⟩ | exact zb_zr _) (fun c7 => ?_) (fun c7 => ?_)
  · refine z_iconst dX2_isMachine_21 (n := 22) rfl ?_
    refine z_ret_z dX2_isMachine_22 rfl (by first | exact Or.inl rfl | exact Or.inr rfl | exact zb_or _) ?_
    first | exact ⟨(zb_f (fun z => by have := z.1; omega)).symm, rfl⟩ | exact ⟨(zb_f (fun z => z.2.1 (by omega))).symm, rfl⟩
  · refine z_aload_0 dX2_isMachine_10 (n := 11) rfl ?_
    refine z_callV0i dX2_isMachine_11 (n := 14) rfl mv_X2_firstFault lk_X2_27 rfl (zrm (by decide) (by decide)) (Nat.le_of_ble_eq_true rfl) (c_X2_firstFault (by omega) (by omega) hc) (fun r u hp => ?_)
    obtain ⟨rfl, rfl⟩ := hp
    have hff := ffG_r (fun i => ¬ fitP i (ar 2 i)) (sz 1 1).toNat 0
    refine z_aload_0 dX2_isMachine_14 (n := 15) rfl ?_
    refine z_get dX2_isMachine_15 (n := 18) rfl rfl fd_X2_15 rfl ?_
    refine z_icmp_ge dX2_isMachine_18 (n := 21) (tg := 23) rfl (by decide) (by first | assumption | exact ⟨by omega, by omega⟩ | exact zb_zr _) (by first | assumption | exact ⟨by omega, by omega⟩ | exact zb_zr _) (fun c18 => ?_) (fun c18 => ?_)
    · refine z_aload_0 dX2_isMachine_23 (n := 24) rfl ?_
      refine z_callV0i dX2_isMachine_24 (n := 27) rfl mv_X2_statesTold lk_X2_31 rfl (zrm (by decide) (by decide)) (Nat.le_of_ble_eq_true rfl) (c_X2_statesTold (by omega) (by omega)) (fun r u hp => ?_)
      obtain ⟨rfl, rfl⟩ := hp
      refine z_istore_1 dX2_isMachine_27 (n := 28) rfl (by decide) (fun w h => by cases h; try rfl) ?_
      refine z_iconst dX2_isMachine_28 (n := 29) rfl ?_
      refine z_istore_2 dX2_isMachine_29 (n := 30) rfl (by decide) (fun w h => by cases h; try rfl) ?_
      exact HO (by omega) (by omega) ((sz 1 1 + 1) / 4).toNat 0 (by omega) (by omega) (fun i a b => by omega)
    · refine z_iconst dX2_isMachine_21 (n := 22) rfl ?_
      refine z_ret_z dX2_isMachine_22 rfl (by first | exact Or.inl rfl | exact Or.inr rfl | exact zb_or _) ?_
      first | exact ⟨(zb_f (fun z => by have := z.1; omega)).symm, rfl⟩ | exact ⟨(zb_f (fun z => z.2.1 (by omega))).symm, rfl⟩
set_option maxHeartbeats 4000000 in
theorem c_X5_size {G : zG} {sz : zSz} {ar : zAr}  : zSem G mX5_size 0 [zR 27] (X sz ar) (zpi fun r u => r = sz 27 1 ∧ u = X sz ar) := by
  refine z_enter (L' := [some (zR 27)]) (by decide +kernel) (Nat.le_of_ble_eq_true rfl) ⟨0, rfl⟩ ?_
  refine z_aload_0 dX5_size_0 (n := 1) rfl ?_
  refine z_get dX5_size_1 (n := 4) rfl rfl fd_X5_15 rfl ?_
  refine z_ret_i dX5_size_4 rfl ?_
  exact ⟨rfl, rfl⟩
set_option maxHeartbeats 4000000 in
theorem c_X5_sortsOf {G : zG} {sz : zSz} {ar : zAr} {s : Int} (h0 : 0 ≤ s) (h1 : s < 6)  : zSem G mX5_sortsOf 0 [zR 27, zI s] (X sz ar) (zpi fun r u => r = ar 28 s ∧ u = X sz ar) := by
  refine z_enter (L' := [some (zR 27), some (zI s)]) (by decide +kernel) (Nat.le_of_ble_eq_true rfl) ⟨0, rfl⟩ ?_
  refine z_iload_1 dX5_sortsOf_0 (n := 1) rfl ?_
  refine z_if_lt dX5_sortsOf_1 (n := 4) (tg := 19) rfl (by decide) (by first | assumption | exact ⟨by omega, by omega⟩ | exact zb_zr _) (fun c1 => ?_) (fun c1 => ?_)
  · exfalso; omega
  · refine z_iload_1 dX5_sortsOf_4 (n := 5) rfl ?_
    refine z_bipush dX5_sortsOf_5 (n := 7) rfl (by decide) ?_
    refine z_icmp_ge dX5_sortsOf_7 (n := 10) (tg := 19) rfl (by decide) (by first | assumption | exact ⟨by omega, by omega⟩ | exact zb_zr _) (by first | assumption | exact ⟨by omega, by omega⟩ | exact zb_zr _) (fun c7 => ?_) (fun c7 => ?_)
    · exfalso; omega
    · refine z_aload_0 dX5_sortsOf_10 (n := 11) rfl ?_
      refine z_get dX5_sortsOf_11 (n := 14) rfl rfl fd_X5_9 rfl ?_
      refine z_iload_1 dX5_sortsOf_14 (n := 15) rfl ?_
      refine z_iald dX5_sortsOf_15 (n := 16) rfl rfl (by omega) (by omega) (by decide) ?_
      refine z_goto dX5_sortsOf_16 (n := 20) (by decide) ?_
      refine z_ret_i dX5_sortsOf_20 rfl ?_
      exact ⟨rfl, rfl⟩
set_option maxHeartbeats 4000000 in
theorem c_X5_add {G : zG} {sz : zSz} {ar : zAr} {s v : Int} (h0 : 0 ≤ s) (h1 : s < 6) (h2 : 0 ≤ ar 28 s) (h3 : 0 ≤ v)  : zSem G mX5_add 0 [zR 27, zI s, zI v] (X sz ar) (zpv fun u => u = X (zz sz 27 1 (sz 27 1 + 1)) (zq ar 28 (zf (ar 28) s (zand (ar 28 s) v)))) := by
  refine z_enter (L' := [some (zR 27), some (zI s), some (zI v)]) (by decide +kernel) (Nat.le_of_ble_eq_true rfl) ⟨0, rfl⟩ ?_
  refine z_iload_1 dX5_add_0 (n := 1) rfl ?_
  refine z_if_lt dX5_add_1 (n := 4) (tg := 30) rfl (by decide) (by first | assumption | exact ⟨by omega, by omega⟩ | exact zb_zr _) (fun c1 => ?_) (fun c1 => ?_)
  · exfalso; omega
  · refine z_iload_1 dX5_add_4 (n := 5) rfl ?_
    refine z_bipush dX5_add_5 (n := 7) rfl (by decide) ?_
    refine z_icmp_ge dX5_add_7 (n := 10) (tg := 30) rfl (by decide) (by first | assumption | exact ⟨by omega, by omega⟩ | exact zb_zr _) (by first | assumption | exact ⟨by omega, by omega⟩ | exact zb_zr _) (fun c7 => ?_) (fun c7 => ?_)
    · exfalso; omega
    · refine z_aload_0 dX5_add_10 (n := 11) rfl ?_
      refine z_get dX5_add_11 (n := 14) rfl rfl fd_X5_9 rfl ?_
      refine z_iload_1 dX5_add_14 (n := 15) rfl ?_
      refine z_dup2 dX5_add_15 (n := 16) rfl rfl rfl ?_
      refine z_iald dX5_add_16 (n := 17) rfl rfl (by omega) (by omega) (by decide) ?_
      refine z_iload_2 dX5_add_17 (n := 18) rfl ?_
      refine z_iand dX5_add_18 (n := 19) rfl (by omega) (by omega) ?_
      refine z_iastX dX5_add_19 (n := 20) rfl rfl (by omega) (by omega) (by decide) rfl ?_
      refine z_aload_0 dX5_add_20 (n := 21) rfl ?_
      refine z_dup dX5_add_21 (n := 22) rfl rfl ?_
      refine z_get dX5_add_22 (n := 25) rfl rfl fd_X5_15 rfl ?_
      refine z_iconst dX5_add_25 (n := 26) rfl ?_
      refine z_iadd dX5_add_26 (n := 27) rfl ?_
      refine z_putX dX5_add_27 (n := 30) rfl rfl fw_X5_15 (by first | decide | simp) rfl ?_
      refine z_ret_v dX5_add_30 rfl ?_
      rfl
set_option maxHeartbeats 4000000 in
theorem c_X5_clear {G : zG} {sz : zSz} {ar : zAr}  : zSem G mX5_clear 0 [zR 27] (X sz ar) (zpv fun u => ∃ ar', u = X (zz sz 27 1 0) ar' ∧ (∀ j, j ≠ 28 → ar' j = ar j) ∧ ∀ j, 0 ≤ j → j < 6 → ar' 28 j = 31) := by
  refine z_enter (L' := [some (zR 27), none]) (by decide +kernel) (Nat.le_of_ble_eq_true rfl) ⟨1, rfl⟩ ?_
  have HO : ∀ (m i : Nat) (ar' : zAr), i + m = 6 → (∀ j, j ≠ 28 → ar' j = ar j) → (∀ j : Int, 0 ≤ j → j < i → ar' 28 j = 31) → zWP G mX5_clear 0 (zpv fun u => ∃ ar', u = X (zz sz 27 1 0) ar' ∧ (∀ j, j ≠ 28 → ar' j = ar j) ∧ ∀ j, 0 ≤ j → j < 6 → ar' 28 j = 31) 7 [some (zR 27), some (zI i)] [] (X (zz sz 27 1 0) ar') := by
    intro m
    induction m with
    | zero =>
      intro i ar' hi hF h
      have ei : i = 6 := by omega
      subst ei
      refine z_iload_1 dX5_clear_7 (n := 8) rfl ?_
      refine z_bipush dX5_clear_8 (n := 10) rfl (by decide) ?_
      refine z_icmp_ge dX5_clear_10 (n := 13) (tg := 27) rfl (by decide) (by first | assumption | exact ⟨by omega, by omega⟩ | exact zb_zr _) (by first | assumption | exact ⟨by omega, by omega⟩ | exact zb_zr _) (fun c10 => ?_) (fun c10 => ?_)
      · refine z_ret_v dX5_clear_27 rfl ?_
        exact ⟨_, rfl, hF, fun j a b => h j a (by omega)⟩
      · exfalso; omega
    | succ m ih =>
      intro i ar' hi hF h
      refine z_iload_1 dX5_clear_7 (n := 8) rfl ?_
      refine z_bipush dX5_clear_8 (n := 10) rfl (by decide) ?_
      refine z_icmp_ge dX5_clear_10 (n := 13) (tg := 27) rfl (by decide) (by first | assumption | exact ⟨by omega, by omega⟩ | exact zb_zr _) (by first | assumption | exact ⟨by omega, by omega⟩ | exact zb_zr _) (fun c10 => ?_) (fun c10 => ?_)
      · exfalso; omega
      · refine z_aload_0 dX5_clear_13 (n := 14) rfl ?_
        refine z_get dX5_clear_14 (n := 17) rfl rfl fd_X5_9 rfl ?_
        refine z_iload_1 dX5_clear_17 (n := 18) rfl ?_
        refine z_bipush dX5_clear_18 (n := 20) rfl (by decide) ?_
        refine z_iastX dX5_clear_20 (n := 21) rfl rfl (by omega) (by omega) (by decide) rfl ?_
        refine z_iinc_1 dX5_clear_21 (n := 24) rfl (by decide) (fun w h => by cases h; try rfl) ?_
        refine z_goto dX5_clear_24 (n := 7) (by decide) ?_
        have h9 := ih (i + 1) (zq ar' 28 (zf (ar' 28) i 31)) (by omega) (fun j hj => (zq_ne hj).trans (hF j hj)) (fun j a b => by rw [zq_eq]; by_cases e : j = i; (rw [e, zf_eq]); (rw [zf_ne e]; exact h j a (by omega)))
        rw [show ((i + 1 : Nat) : Int) = (i : Int) + 1 by omega] at h9
        exact h9
  refine z_aload_0 dX5_clear_0 (n := 1) rfl ?_
  refine z_iconst dX5_clear_1 (n := 2) rfl ?_
  refine z_putX dX5_clear_2 (n := 5) rfl rfl fw_X5_15 (by first | decide | simp) rfl ?_
  refine z_iconst dX5_clear_5 (n := 6) rfl ?_
  refine z_istore_1 dX5_clear_6 (n := 7) rfl (by decide) (fun w h => by cases h; try rfl) ?_
  exact HO 6 0 ar (by omega) (fun _ _ => rfl) (fun j a b => by omega)
set_option maxHeartbeats 4000000 in
theorem c_X5_copyFrom_2927 {G : zG} {sz : zSz} {ar : zAr}  : zSem G mX5_copyFrom 1 [zR 29, zR 27] (X sz ar) (zpv fun u => u = X (zz sz 29 1 (sz 27 1)) (zq ar 30 (zcp (ar 28) (ar 30) 0 0 6))) := by
  refine z_enter (L' := [some (zR 29), some (zR 27)]) (by decide +kernel) (Nat.le_of_ble_eq_true rfl) ⟨0, rfl⟩ ?_
  refine z_aload_0 dX5_copyFrom_0 (n := 1) rfl ?_
  refine z_aload_1 dX5_copyFrom_1 (n := 2) rfl ?_
  refine z_get dX5_copyFrom_2 (n := 5) rfl rfl fd_X5_15 rfl ?_
  refine z_putX dX5_copyFrom_5 (n := 8) rfl rfl fw_X5_15 (by first | decide | simp) rfl ?_
  refine z_aload_1 dX5_copyFrom_8 (n := 9) rfl ?_
  refine z_get dX5_copyFrom_9 (n := 12) rfl rfl fd_X5_9 rfl ?_
  refine z_iconst dX5_copyFrom_12 (n := 13) rfl ?_
  refine z_aload_0 dX5_copyFrom_13 (n := 14) rfl ?_
  refine z_get dX5_copyFrom_14 (n := 17) rfl rfl fd_X5_9 rfl ?_
  refine z_iconst dX5_copyFrom_17 (n := 18) rfl ?_
  refine z_bipush dX5_copyFrom_18 (n := 20) rfl (by decide) ?_
  refine z_acopy dX5_copyFrom_20 (n := 23) rfl ac_X5_19 rfl rfl (fun _ => rfl) (by omega) (by omega) (by omega) (by omega) (by omega) (by decide) (by decide) (Nat.le_of_ble_eq_true rfl) ?_
  refine z_ret_v dX5_copyFrom_23 rfl ?_
  rfl
set_option maxHeartbeats 4000000 in
theorem c_X5_copyFrom_2729 {G : zG} {sz : zSz} {ar : zAr}  : zSem G mX5_copyFrom 1 [zR 27, zR 29] (X sz ar) (zpv fun u => u = X (zz sz 27 1 (sz 29 1)) (zq ar 28 (zcp (ar 30) (ar 28) 0 0 6))) := by
  refine z_enter (L' := [some (zR 27), some (zR 29)]) (by decide +kernel) (Nat.le_of_ble_eq_true rfl) ⟨0, rfl⟩ ?_
  refine z_aload_0 dX5_copyFrom_0 (n := 1) rfl ?_
  refine z_aload_1 dX5_copyFrom_1 (n := 2) rfl ?_
  refine z_get dX5_copyFrom_2 (n := 5) rfl rfl fd_X5_15 rfl ?_
  refine z_putX dX5_copyFrom_5 (n := 8) rfl rfl fw_X5_15 (by first | decide | simp) rfl ?_
  refine z_aload_1 dX5_copyFrom_8 (n := 9) rfl ?_
  refine z_get dX5_copyFrom_9 (n := 12) rfl rfl fd_X5_9 rfl ?_
  refine z_iconst dX5_copyFrom_12 (n := 13) rfl ?_
  refine z_aload_0 dX5_copyFrom_13 (n := 14) rfl ?_
  refine z_get dX5_copyFrom_14 (n := 17) rfl rfl fd_X5_9 rfl ?_
  refine z_iconst dX5_copyFrom_17 (n := 18) rfl ?_
  refine z_bipush dX5_copyFrom_18 (n := 20) rfl (by decide) ?_
  refine z_acopy dX5_copyFrom_20 (n := 23) rfl ac_X5_19 rfl rfl (fun _ => rfl) (by omega) (by omega) (by omega) (by omega) (by omega) (by decide) (by decide) (Nat.le_of_ble_eq_true rfl) ?_
  refine z_ret_v dX5_copyFrom_23 rfl ?_
  rfl
/-! numbers by a seed -/
def sd (s : Int) : Int := (1103515245 * s + 12345) % 2147483648
theorem sd_r (s : Int) : 0 ≤ sd s ∧ sd s < 2147483648 := by unfold sd; omega
theorem zand_31 {a : Int} (h : 0 ≤ a) : zand a 2147483647 = a % 2147483648 := by
  obtain ⟨x, rfl⟩ := Int.eq_ofNat_of_zero_le h
  have e : (2147483647 : Int).toNat = 2 ^ 31 - 1 := rfl
  unfold zand
  rw [e, Nat.and_two_pow_sub_one_eq_mod]
  rfl
set_option maxHeartbeats 4000000 in
theorem c_X0_startAt {G : zG} {sz : zSz} {ar : zAr} {s : Int} (hs : zr s)  : zSem G mX0_startAt 0 [zR 40, zI s] (X sz ar) (zpv fun u => u = X (zz sz 40 0 s) ar) := by
  refine z_enter (L' := [some (zR 40), some (zI s)]) (by decide +kernel) (Nat.le_of_ble_eq_true rfl) ⟨0, rfl⟩ ?_
  refine z_aload_0 dX0_startAt_0 (n := 1) rfl ?_
  refine z_iload_1 dX0_startAt_1 (n := 2) rfl ?_
  refine z_i2l dX0_startAt_2 (n := 3) rfl (by first | assumption | exact ⟨by omega, by omega⟩ | exact zb_zr _) ?_
  refine z_putLX dX0_startAt_3 (n := 6) rfl rfl fw_X0_7 (by first | decide | simp) rfl ?_
  refine z_ret_v dX0_startAt_6 rfl ?_
  rfl
set_option maxHeartbeats 4000000 in
theorem c_X0_seedNow {G : zG} {sz : zSz} {ar : zAr}  : zSem G mX0_seedNow 0 [zR 40] (X sz ar) (zpi fun r u => r = sz 40 0 ∧ u = X sz ar) := by
  refine z_enter (L' := [some (zR 40)]) (by decide +kernel) (Nat.le_of_ble_eq_true rfl) ⟨0, rfl⟩ ?_
  refine z_aload_0 dX0_seedNow_0 (n := 1) rfl ?_
  refine z_get dX0_seedNow_1 (n := 4) rfl rfl fd_X0_7 rfl ?_
  refine z_l2i dX0_seedNow_4 (n := 5) rfl ?_
  refine z_ret_i dX0_seedNow_5 rfl ?_
  exact ⟨rfl, rfl⟩
set_option maxHeartbeats 4000000 in
theorem c_X0_below {G : zG} {sz : zSz} {ar : zAr} {b : Int} (h0 : 0 ≤ sz 40 0) (h1 : sz 40 0 < 2147483648) (hb0 : 0 < b) (hb1 : b < 2147483648)  : zSem G mX0_below 0 [zR 40, zI b] (X sz ar) (zpi fun r u => r = sd (sz 40 0) / 65536 % b ∧ u = X (zz sz 40 0 (sd (sz 40 0))) ar) := by
  refine z_enter (L' := [some (zR 40), some (zI b)]) (by decide +kernel) (Nat.le_of_ble_eq_true rfl) ⟨0, rfl⟩ ?_
  have hs := sd_r (sz 40 0)
  have hd0 : 0 ≤ 1103515245 * sz 40 0 + 12345 := by omega
  refine z_aload_0 dX0_below_0 (n := 1) rfl ?_
  refine z_ldc2 dX0_below_1 (n := 4) rfl kn_X0_13 ?_
  refine z_aload_0 dX0_below_4 (n := 5) rfl ?_
  refine z_get dX0_below_5 (n := 8) rfl rfl fd_X0_7 rfl ?_
  refine z_lmul dX0_below_8 (n := 9) rfl ?_
  refine z_ldc2 dX0_below_9 (n := 12) rfl kn_X0_15 ?_
  refine z_ladd dX0_below_12 (n := 13) rfl ?_
  refine z_ldc2 dX0_below_13 (n := 16) rfl kn_X0_17 ?_
  refine z_land dX0_below_16 (n := 17) rfl (by omega) (by omega) ?_
  rw [zand_31 hd0, show (1103515245 * sz 40 0 + 12345) % 2147483648 = sd (sz 40 0) from rfl]
  refine z_putLX dX0_below_17 (n := 20) rfl rfl fw_X0_7 (by first | decide | simp) rfl ?_
  refine z_iload_1 dX0_below_20 (n := 21) rfl ?_
  refine z_if_le dX0_below_21 (n := 24) (tg := 39) rfl (by decide) (by first | assumption | exact ⟨by omega, by omega⟩ | exact zb_zr _) (fun c21 => ?_) (fun c21 => ?_)
  · exfalso; omega
  · refine z_aload_0 dX0_below_24 (n := 25) rfl ?_
    refine z_get dX0_below_25 (n := 28) rfl rfl fd_X0_7 rfl ?_
    rw [zz_eq]
    refine z_ldc2 dX0_below_28 (n := 31) rfl kn_X0_19 ?_
    refine z_ldiv dX0_below_31 (n := 32) rfl (by omega) (by omega) (by omega) (by omega) ?_
    refine z_iload_1 dX0_below_32 (n := 33) rfl ?_
    refine z_i2l dX0_below_33 (n := 34) rfl (by first | assumption | exact ⟨by omega, by omega⟩ | exact zb_zr _) ?_
    refine z_lrem dX0_below_34 (n := 35) rfl (by omega) (by omega) (by omega) (by omega) ?_
    refine z_l2i dX0_below_35 (n := 36) rfl ?_
    refine z_goto dX0_below_36 (n := 40) (by decide) ?_
    refine z_ret_i dX0_below_40 rfl ?_
    exact ⟨rfl, rfl⟩
