/-! Search -/
set_option maxHeartbeats 4000000 in
theorem c_X4_pack {G : zG} {sz : zSz} {ar : zAr} {k : Nat} {xs : List Int} (hk : isL k) (hL : LR (sz k 1) (ar (k + 1)) xs) (hx : Ls xs) (hc1 : xs.length ≤ cap k) (hc2 : xs.length ≤ 128)  : zSem G mX4_pack 1 [zR 31, zR k] (X sz ar) (zpv fun u => ∃ ar', u = X sz ar' ∧ (∀ j, j ≠ 33 → ar' j = ar j) ∧ ∀ q : Int, 0 ≤ q → q < 8 → ar' 33 q = pv xs q) := by
  refine z_enter (L' := [some (zR 31), some (zR k), none, none, none]) (by decide +kernel) (Nat.le_of_ble_eq_true rfl) ⟨3, rfl⟩ ?_
  have hc := cap_r k
  have hn := hL.1
  have hk33 : k + 1 ≠ 33 := by unfold isL at hk; omega
  have HB : ∀ (m i : Nat) (ar' : zAr) (y : Option zV), i + m = xs.length → (∀ j, j ≠ 33 → ar' j = ar j) → (∀ q : Int, 0 ≤ q → q < 8 → ar' 33 q = pvl xs i q.toNat 16) → zWP G mX4_pack 1 (zpv fun u => ∃ ar', u = X sz ar' ∧ (∀ j, j ≠ 33 → ar' j = ar j) ∧ ∀ q : Int, 0 ≤ q → q < 8 → ar' 33 q = pv xs q) 23 [some (zR 31), some (zR k), some (zI i), y, none] [] (X sz ar') := by
    intro m
    induction m with
    | zero =>
      intro i ar' y hi hF h
      have ei : i = xs.length := by omega
      subst ei
      refine z_iload_2 dX4_pack_23 (n := 24) rfl ?_
      refine z_aload_1 dX4_pack_24 (n := 25) rfl ?_
      refine z_callV0i dX4_pack_25 (n := 28) rfl mv_X1_size lk_X4_64 (XL1 hk) (zrm (by decide) (by decide)) (Nat.le_of_ble_eq_true rfl) (c_X1_size hk) (fun r u hp => ?_)
      obtain ⟨rfl, rfl⟩ := hp
      refine z_icmp_ge dX4_pack_28 (n := 31) (tg := 73) rfl (by decide) (by first | assumption | exact ⟨by omega, by omega⟩ | exact zb_zr _) (by first | assumption | exact ⟨by omega, by omega⟩ | exact zb_zr _) (fun c28 => ?_) (fun c28 => ?_)
      · refine z_ret_v dX4_pack_73 rfl ?_
        exact ⟨_, rfl, hF, h⟩
      · exfalso; omega
    | succ m ih =>
      intro i ar' y hi hF h
      have hL' : LR (sz k 1) (ar' (k + 1)) xs := by rw [hF _ hk33]; exact hL
      have hg := hL'.get (i := i) (by omega) (by omega)
      have hy := hx _ (hL'.mem (i := i) (by omega) (by omega))
      have hq := h ((i : Int) / 16) (by omega) (by omega)
      have hpr := pvl_r hx (i := i) (by omega) ((i : Int) / 16).toNat 16
      have e1 : (4 * ((i : Int) % 16)).toNat = 4 * (i % 16) := by omega
      have e2 : ((i : Int) / 16).toNat = i / 16 := by omega
      have ho := pvl_or hx (i := i) (by omega)
      have hp2 := p2_pos (4 * (i % 16))
      rw [Int.toNat_natCast] at hg
      have hnn : 0 ≤ (ar' (k + 1) i + 1) * 2 ^ (4 * (i % 16)) := Int.mul_nonneg (by omega) (by omega)
      have hbb : 0 ≤ ar' 33 ((i : Int) / 16) := by rw [hq]; exact hpr.1
      refine z_iload_2 dX4_pack_23 (n := 24) rfl ?_
      refine z_aload_1 dX4_pack_24 (n := 25) rfl ?_
      refine z_callV0i dX4_pack_25 (n := 28) rfl mv_X1_size lk_X4_64 (XL1 hk) (zrm (by decide) (by decide)) (Nat.le_of_ble_eq_true rfl) (c_X1_size hk) (fun r u hp => ?_)
      obtain ⟨rfl, rfl⟩ := hp
      refine z_icmp_ge dX4_pack_28 (n := 31) (tg := 73) rfl (by decide) (by first | assumption | exact ⟨by omega, by omega⟩ | exact zb_zr _) (by first | assumption | exact ⟨by omega, by omega⟩ | exact zb_zr _) (fun c28 => ?_) (fun c28 => ?_)
      · exfalso; omega
      · refine z_iload_2 dX4_pack_31 (n := 32) rfl ?_
        refine z_sipush dX4_pack_32 (n := 35) rfl (by decide) ?_
        refine z_icmp_ge dX4_pack_35 (n := 38) (tg := 73) rfl (by decide) (by first | assumption | exact ⟨by omega, by omega⟩ | exact zb_zr _) (by first | assumption | exact ⟨by omega, by omega⟩ | exact zb_zr _) (fun c35 => ?_) (fun c35 => ?_)
        · exfalso; omega
        · refine z_aload_1 dX4_pack_38 (n := 39) rfl ?_
          refine z_iload_2 dX4_pack_39 (n := 40) rfl ?_
          refine z_callV1i dX4_pack_40 (n := 43) rfl mv_X1_at lk_X4_67 (XL1 hk) (zrm (by decide) (by decide)) (Nat.le_of_ble_eq_true rfl) (c_X1_at hk (by first | assumption | exact ⟨by omega, by omega⟩ | exact zb_zr _) (by omega) (by omega)) (fun r u hp => ?_)
          obtain ⟨rfl, rfl⟩ := hp
          rw [if_pos (by omega)]
          refine z_iconst dX4_pack_43 (n := 44) rfl ?_
          refine z_iadd dX4_pack_44 (n := 45) rfl ?_
          refine z_i2l dX4_pack_45 (n := 46) rfl (by first | assumption | exact ⟨by omega, by omega⟩ | exact zb_zr _) ?_
          refine z_lstore_3 dX4_pack_46 (n := 47) rfl (by decide) (fun w h => by cases h; try rfl) ?_
          refine z_aload_0 dX4_pack_47 (n := 48) rfl ?_
          refine z_get dX4_pack_48 (n := 51) rfl rfl fd_X4_15 rfl ?_
          refine z_iload_2 dX4_pack_51 (n := 52) rfl ?_
          refine z_bipush dX4_pack_52 (n := 54) rfl (by decide) ?_
          refine z_idiv dX4_pack_54 (n := 55) rfl (by omega) (by omega) (by omega) (by omega) ?_
          refine z_dup2 dX4_pack_55 (n := 56) rfl rfl rfl ?_
          refine z_lald dX4_pack_56 (n := 57) rfl rfl (by omega) (by omega) (by decide) ?_
          refine z_lload_3 dX4_pack_57 (n := 58) rfl ?_
          refine z_iconst dX4_pack_58 (n := 59) rfl ?_
          refine z_iload_2 dX4_pack_59 (n := 60) rfl ?_
          refine z_bipush dX4_pack_60 (n := 62) rfl (by decide) ?_
          refine z_irem dX4_pack_62 (n := 63) rfl (by omega) (by omega) (by omega) (by omega) ?_
          refine z_imul dX4_pack_63 (n := 64) rfl ?_
          refine z_lshl dX4_pack_64 (n := 65) rfl (by omega) (by omega) ?_
          rw [e1]
          refine z_lor dX4_pack_65 (n := 66) rfl hbb hnn ?_
          refine z_lastX dX4_pack_66 (n := 67) rfl rfl (by omega) (by omega) (by decide) rfl ?_
          refine z_iinc_2 dX4_pack_67 (n := 70) rfl (by decide) (fun w h => by cases h; try rfl) ?_
          refine z_goto dX4_pack_70 (n := 23) (by decide) ?_
          have h9 := ih (i + 1) (zq ar' 33 (zf (ar' 33) ((i : Int) / 16) (zor (ar' 33 ((i : Int) / 16)) ((ar' (k + 1) i + 1) * 2 ^ (4 * (i % 16)))))) (some (zL (ar' (k + 1) i + 1))) (by omega) (fun j hj => (zq_ne hj).trans (hF j hj)) ?_
          · rw [show ((i + 1 : Nat) : Int) = (i : Int) + 1 by omega] at h9
            exact h9
          · intro q a b
            rw [zq_eq]
            by_cases e : q = (i : Int) / 16
            · rw [e, zf_eq, hq, hg, e2]; exact ho
            · rw [zf_ne e, h q a b, pvl_other (by omega) 16 (by omega)]
  have HA : ∀ (m i : Nat) (ar' : zAr), i + m = 8 → (∀ j, j ≠ 33 → ar' j = ar j) → (∀ q : Int, 0 ≤ q → q < i → ar' 33 q = 0) → zWP G mX4_pack 1 (zpv fun u => ∃ ar', u = X sz ar' ∧ (∀ j, j ≠ 33 → ar' j = ar j) ∧ ∀ q : Int, 0 ≤ q → q < 8 → ar' 33 q = pv xs q) 2 [some (zR 31), some (zR k), some (zI i), none, none] [] (X sz ar') := by
    intro m
    induction m with
    | zero =>
      intro i ar' hi hF h
      have ei : i = 8 := by omega
      subst ei
      have z0 : ∀ (q : Nat) (mm : Nat), pvl xs 0 q mm = 0 := by
        intro q mm
        induction mm with
        | zero => rfl
        | succ mm ih => rw [show pvl xs 0 q (mm + 1) = pvl xs 0 q mm + dg xs 0 (16 * q + mm) * 16 ^ mm from rfl, ih, show dg xs 0 (16 * q + mm) = 0 from if_neg (by omega), Int.zero_mul]; rfl
      refine z_iload_2 dX4_pack_2 (n := 3) rfl ?_
      refine z_bipush dX4_pack_3 (n := 5) rfl (by decide) ?_
      refine z_icmp_ge dX4_pack_5 (n := 8) (tg := 21) rfl (by decide) (by first | assumption | exact ⟨by omega, by omega⟩ | exact zb_zr _) (by first | assumption | exact ⟨by omega, by omega⟩ | exact zb_zr _) (fun c5 => ?_) (fun c5 => ?_)
      · refine z_iconst dX4_pack_21 (n := 22) rfl ?_
        refine z_istore_2 dX4_pack_22 (n := 23) rfl (by decide) (fun w h => by cases h; try rfl) ?_
        exact HB xs.length 0 ar' none (by omega) hF (fun q a b => by rw [h q a (by omega), z0])
      · exfalso; omega
    | succ m ih =>
      intro i ar' hi hF h
      refine z_iload_2 dX4_pack_2 (n := 3) rfl ?_
      refine z_bipush dX4_pack_3 (n := 5) rfl (by decide) ?_
      refine z_icmp_ge dX4_pack_5 (n := 8) (tg := 21) rfl (by decide) (by first | assumption | exact ⟨by omega, by omega⟩ | exact zb_zr _) (by first | assumption | exact ⟨by omega, by omega⟩ | exact zb_zr _) (fun c5 => ?_) (fun c5 => ?_)
      · exfalso; omega
      · refine z_aload_0 dX4_pack_8 (n := 9) rfl ?_
        refine z_get dX4_pack_9 (n := 12) rfl rfl fd_X4_15 rfl ?_
        refine z_iload_2 dX4_pack_12 (n := 13) rfl ?_
        refine z_lconst0 dX4_pack_13 (n := 14) rfl ?_
        refine z_lastX dX4_pack_14 (n := 15) rfl rfl (by omega) (by omega) (by decide) rfl ?_
        refine z_iinc_2 dX4_pack_15 (n := 18) rfl (by decide) (fun w h => by cases h; try rfl) ?_
        refine z_goto dX4_pack_18 (n := 2) (by decide) ?_
        have h9 := ih (i + 1) (zq ar' 33 (zf (ar' 33) i 0)) (by omega) (fun j hj => (zq_ne hj).trans (hF j hj)) (fun q a b => by rw [zq_eq]; by_cases e : q = i; (rw [e, zf_eq]); (rw [zf_ne e]; exact h q a (by omega)))
        rw [show ((i + 1 : Nat) : Int) = (i : Int) + 1 by omega] at h9
        exact h9
  refine z_iconst dX4_pack_0 (n := 1) rfl ?_
  refine z_istore_2 dX4_pack_1 (n := 2) rfl (by decide) (fun w h => by cases h; try rfl) ?_
  exact HA 8 0 ar (by omega) (fun _ _ => rfl) (fun q a b => by omega)
set_option maxHeartbeats 4000000 in
theorem c_X4_isPackedAt {G : zG} {sz : zSz} {ar : zAr} {p : Int} (h0 : 0 ≤ p) (h1 : p ≤ 40) (hf : ∀ q : Int, 0 ≤ q → q < 8 → 0 ≤ ar 32 (p * 8 + q) ∧ ar 32 (p * 8 + q) < 18446744073709551616) (hp : ∀ q : Int, 0 ≤ q → q < 8 → 0 ≤ ar 33 q ∧ ar 33 q < 18446744073709551616)  : zSem G mX4_isPackedAt 0 [zR 31, zI p] (X sz ar) (zpi fun r u => r = zb (∀ q : Int, 0 ≤ q → q < 8 → ar 32 (p * 8 + q) = ar 33 q) ∧ u = X sz ar) := by
  refine z_enter (L' := [some (zR 31), some (zI p), none]) (by decide +kernel) (Nat.le_of_ble_eq_true rfl) ⟨1, rfl⟩ ?_
  have HO : ∀ (m i : Nat), i + m = 8 → (∀ q : Int, 0 ≤ q → q < i → ar 32 (p * 8 + q) = ar 33 q) → zWP G mX4_isPackedAt 0 (zpi fun r u => r = zb (∀ q : Int, 0 ≤ q → q < 8 → ar 32 (p * 8 + q) = ar 33 q) ∧ u = X sz ar) 14 [some (zR 31), some (zI p), some (zI i)] [] (X sz ar) := by
    intro m
    induction m with
    | zero =>
      intro i hi h
      refine z_iload_2 dX4_isPackedAt_14 (n := 15) rfl ?_
      refine z_bipush dX4_isPackedAt_15 (n := 17) rfl (by decide) ?_
      refine z_icmp_ge dX4_isPackedAt_17 (n := 20) (tg := 49) rfl (by decide) (by first | assumption | exact ⟨by omega, by omega⟩ | exact zb_zr _) (by first | assumption | exact ⟨by omega, by omega⟩ | exact zb_zr _) (fun c17 => ?_) (fun c17 => ?_)
      · refine z_iconst dX4_isPackedAt_49 (n := 50) rfl ?_
        refine z_ret_z dX4_isPackedAt_50 rfl (by first | exact Or.inl rfl | exact Or.inr rfl | exact zb_or _) ?_
        exact ⟨(zb_t (fun q a b => h q a (by omega))).symm, rfl⟩
      · exfalso; omega
    | succ m ih =>
      intro i hi h
      have b1 := hf i (by omega) (by omega)
      have b2 := hp i (by omega) (by omega)
      refine z_iload_2 dX4_isPackedAt_14 (n := 15) rfl ?_
      refine z_bipush dX4_isPackedAt_15 (n := 17) rfl (by decide) ?_
      refine z_icmp_ge dX4_isPackedAt_17 (n := 20) (tg := 49) rfl (by decide) (by first | assumption | exact ⟨by omega, by omega⟩ | exact zb_zr _) (by first | assumption | exact ⟨by omega, by omega⟩ | exact zb_zr _) (fun c17 => ?_) (fun c17 => ?_)
      · exfalso; omega
      · refine z_aload_0 dX4_isPackedAt_20 (n := 21) rfl ?_
        refine z_get dX4_isPackedAt_21 (n := 24) rfl rfl fd_X4_9 rfl ?_
        refine z_iload_1 dX4_isPackedAt_24 (n := 25) rfl ?_
        refine z_bipush dX4_isPackedAt_25 (n := 27) rfl (by decide) ?_
        refine z_imul dX4_isPackedAt_27 (n := 28) rfl ?_
        refine z_iload_2 dX4_isPackedAt_28 (n := 29) rfl ?_
        refine z_iadd dX4_isPackedAt_29 (n := 30) rfl ?_
        refine z_lald dX4_isPackedAt_30 (n := 31) rfl rfl (by omega) (by omega) (by decide) ?_
        refine z_aload_0 dX4_isPackedAt_31 (n := 32) rfl ?_
        refine z_get dX4_isPackedAt_32 (n := 35) rfl rfl fd_X4_15 rfl ?_
        refine z_iload_2 dX4_isPackedAt_35 (n := 36) rfl ?_
        refine z_lald dX4_isPackedAt_36 (n := 37) rfl rfl (by omega) (by omega) (by decide) ?_
        refine z_lcmp_eq dX4_isPackedAt_37 (n := 38) rfl dX4_isPackedAt_38 (n2 := 41) (tg := 43) rfl (by decide) (za_leq b1.1 b2.1 b1.2 b2.2) (fun c37 => ?_) (fun c37 => ?_)
        · refine z_iinc_2 dX4_isPackedAt_43 (n := 46) rfl (by decide) (fun w h => by cases h; try rfl) ?_
          refine z_goto dX4_isPackedAt_46 (n := 14) (by decide) ?_
          have h9 := ih (i + 1) (by omega) (fun q a b => by by_cases e : q = i; (rw [e]; exact c37); exact h q a (by omega))
          rw [show ((i + 1 : Nat) : Int) = (i : Int) + 1 by omega] at h9
          exact h9
        · refine z_iconst dX4_isPackedAt_41 (n := 42) rfl ?_
          refine z_ret_z dX4_isPackedAt_42 rfl (by first | exact Or.inl rfl | exact Or.inr rfl | exact zb_or _) ?_
          exact ⟨(zb_f (fun z => c37 (z i (by omega) (by omega)))).symm, rfl⟩
  refine z_iload_1 dX4_isPackedAt_0 (n := 1) rfl ?_
  refine z_if_lt dX4_isPackedAt_1 (n := 4) (tg := 10) rfl (by decide) (by first | assumption | exact ⟨by omega, by omega⟩ | exact zb_zr _) (fun c1 => ?_) (fun c1 => ?_)
  · exfalso; omega
  · refine z_iload_1 dX4_isPackedAt_4 (n := 5) rfl ?_
    refine z_bipush dX4_isPackedAt_5 (n := 7) rfl (by decide) ?_
    refine z_icmp_le dX4_isPackedAt_7 (n := 10) (tg := 12) rfl (by decide) (by first | assumption | exact ⟨by omega, by omega⟩ | exact zb_zr _) (by first | assumption | exact ⟨by omega, by omega⟩ | exact zb_zr _) (fun c7 => ?_) (fun c7 => ?_)
    · refine z_iconst dX4_isPackedAt_12 (n := 13) rfl ?_
      refine z_istore_2 dX4_isPackedAt_13 (n := 14) rfl (by decide) (fun w h => by cases h; try rfl) ?_
      exact HO 8 0 (by omega) (fun q a b => by omega)
    · exfalso; omega
def FR (fs : List (List Int)) (sz : zSz) (ar : zAr) : Prop := sz 31 4 = fs.length ∧ ∀ p : Nat, p < fs.length → ∀ q : Int, 0 ≤ q → q < 8 → ar 32 (p * 8 + q) = pv (fs.getD p []) q
/-- only the search's own numbers have changed -/
def Fs (sz : zSz) (ar : zAr) (sz' : zSz) (ar' : zAr) : Prop := (∀ j, j ≠ 31 → sz' j = sz j) ∧ ∀ j, j ≠ 32 → j ≠ 33 → ar' j = ar j
theorem Fs.rf {sz : zSz} {ar : zAr} : Fs sz ar sz ar := ⟨fun _ _ => rfl, fun _ _ _ => rfl⟩
theorem Fs.tr {sz sz' sz'' : zSz} {ar ar' ar'' : zAr} (h : Fs sz ar sz' ar') (h2 : Fs sz' ar' sz'' ar'') : Fs sz ar sz'' ar'' := ⟨fun j hj => (h2.1 j hj).trans (h.1 j hj), fun j a b => (h2.2 j a b).trans (h.2 j a b)⟩
theorem FR.bnd {n : Int} {fs : List (List Int)} {sz : zSz} {ar : zAr} (h : FR fs sz ar) (hw : Wok n fs) (hn : n ≤ 6) {p : Nat} (hp : p < fs.length) : ∀ q : Int, 0 ≤ q → q < 8 → 0 ≤ ar 32 (p * 8 + q) ∧ ar 32 (p * 8 + q) < 18446744073709551616 := fun q a b => by
  rw [h.2 p hp q a b]
  exact pv_r ((hw.2 _ (getD_mem hp)).1.Ls hn) q
set_option maxHeartbeats 4000000 in
theorem c_X4_find {G : zG} {sz : zSz} {ar : zAr} {k : Nat} {n : Int} {xs : List Int} {fs : List (List Int)} (hk : isL k) (hn6 : n ≤ 6) (hL : LR (sz k 1) (ar (k + 1)) xs) (hx : Lt n xs) (hc1 : xs.length ≤ cap k) (hc2 : xs.length ≤ 128) (hR : FR fs sz ar) (hw : Wok n fs)  : zSem G mX4_find 2 [zR 31, zR k] (X sz ar) (zpv fun u => ∃ sz' ar', u = X sz' ar' ∧ FR (addW fs xs) sz' ar' ∧ Fs sz ar sz' ar') := by
  refine z_enter (L' := [some (zR 31), some (zR k), none]) (by decide +kernel) (Nat.le_of_ble_eq_true rfl) ⟨1, rfl⟩ ?_
  have hlen := hw.1
  have hs := hR.1
  have HO : fs.length ≤ 40 → ∀ (ar' : zAr), (∀ j, j ≠ 33 → ar' j = ar j) → (∀ q : Int, 0 ≤ q → q < 8 → ar' 33 q = pv xs q) → ∀ (m i : Nat), i + m = fs.length → (∀ p : Nat, p < i → fs.getD p [] ≠ xs) → zWP G mX4_find 2 (zpv fun u => ∃ sz' ar', u = X sz' ar' ∧ FR (addW fs xs) sz' ar' ∧ Fs sz ar sz' ar') 17 [some (zR 31), some (zR k), some (zI i)] [] (X sz ar') := by
    intro h40 ar' hF hP m
    have hR' : FR fs sz ar' := ⟨hs, fun p hp q a b => by rw [hF 32 (by decide)]; exact hR.2 p hp q a b⟩
    have hFs : Fs sz ar sz ar' := ⟨fun _ _ => rfl, fun j _ b => hF j b⟩
    have hPb : ∀ q : Int, 0 ≤ q → q < 8 → 0 ≤ ar' 33 q ∧ ar' 33 q < 18446744073709551616 := fun q a b => by rw [hP q a b]; exact pv_r (hx.Ls hn6) q
    induction m with
    | zero =>
      intro i hi h
      have ei : i = fs.length := by omega
      subst ei
      have hnew : addW fs xs = fs ++ [xs] := by
        unfold addW
        rw [if_neg (by omega), if_neg (fun z => ?_)]
        obtain ⟨p, hp, e⟩ := List.getElem_of_mem z
        exact h p hp (by rw [List.getD_eq_getElem?_getD, List.getElem?_eq_getElem hp]; exact e)
      refine z_iload_2 dX4_find_17 (n := 18) rfl ?_
      refine z_aload_0 dX4_find_18 (n := 19) rfl ?_
      refine z_get dX4_find_19 (n := 22) rfl rfl fd_X4_30 rfl ?_
      refine z_icmp_ge dX4_find_22 (n := 25) (tg := 40) rfl (by decide) (by first | assumption | exact ⟨by omega, by omega⟩ | exact zb_zr _) (by first | assumption | exact ⟨by omega, by omega⟩ | exact zb_zr _) (fun c22 => ?_) (fun c22 => ?_)
      · refine z_aload_0 dX4_find_40 (n := 41) rfl ?_
        refine z_get dX4_find_41 (n := 44) rfl rfl fd_X4_15 rfl ?_
        refine z_iconst dX4_find_44 (n := 45) rfl ?_
        refine z_aload_0 dX4_find_45 (n := 46) rfl ?_
        refine z_get dX4_find_46 (n := 49) rfl rfl fd_X4_9 rfl ?_
        refine z_aload_0 dX4_find_49 (n := 50) rfl ?_
        refine z_get dX4_find_50 (n := 53) rfl rfl fd_X4_30 rfl ?_
        refine z_bipush dX4_find_53 (n := 55) rfl (by decide) ?_
        refine z_imul dX4_find_55 (n := 56) rfl ?_
        refine z_bipush dX4_find_56 (n := 58) rfl (by decide) ?_
        refine z_acopyL dX4_find_58 (n := 61) rfl ac_X4_58 rfl rfl (fun _ => rfl) (by omega) (by omega) (by omega) (by omega) (by omega) (by decide) (by decide) (Nat.le_of_ble_eq_true rfl) ?_
        refine z_aload_0 dX4_find_61 (n := 62) rfl ?_
        refine z_dup dX4_find_62 (n := 63) rfl rfl ?_
        refine z_get dX4_find_63 (n := 66) rfl rfl fd_X4_30 rfl ?_
        refine z_iconst dX4_find_66 (n := 67) rfl ?_
        refine z_iadd dX4_find_67 (n := 68) rfl ?_
        refine z_putX dX4_find_68 (n := 71) rfl rfl fw_X4_30 (by first | decide | simp) rfl ?_
        refine z_ret_v dX4_find_71 rfl ?_
        refine ⟨_, _, rfl, ?_, fun j hj => zz_ne hj, fun j a b => (zq_ne a).trans (hF j b)⟩
        rw [hnew]
        refine ⟨by rw [zz_eq, hs]; simp, fun p hp q a b => ?_⟩
        rw [zq_eq]
        unfold zcp
        rw [List.length_append] at hp
        simp only [List.length_cons, List.length_nil] at hp
        by_cases e : p < fs.length
        · rw [if_neg (by omega), hR'.2 p e q a b, List.getD_eq_getElem?_getD, List.getD_eq_getElem?_getD, List.getElem?_append_left e]
        · have e2 : p = fs.length := by omega
          subst e2
          rw [if_pos (by omega), show (0 : Int) + ((fs.length : Int) * 8 + q - sz 31 4 * 8) = q by omega, hP q a b, List.getD_eq_getElem?_getD, List.getElem?_append_right (Nat.le_refl _)]
          simp
      · exfalso; omega
    | succ m ih =>
      intro i hi h
      have hb := hR'.bnd hw hn6 (p := i) (by omega)
      refine z_iload_2 dX4_find_17 (n := 18) rfl ?_
      refine z_aload_0 dX4_find_18 (n := 19) rfl ?_
      refine z_get dX4_find_19 (n := 22) rfl rfl fd_X4_30 rfl ?_
      refine z_icmp_ge dX4_find_22 (n := 25) (tg := 40) rfl (by decide) (by first | assumption | exact ⟨by omega, by omega⟩ | exact zb_zr _) (by first | assumption | exact ⟨by omega, by omega⟩ | exact zb_zr _) (fun c22 => ?_) (fun c22 => ?_)
      · exfalso; omega
      · refine z_aload_0 dX4_find_25 (n := 26) rfl ?_
        refine z_iload_2 dX4_find_26 (n := 27) rfl ?_
        refine z_callV1i dX4_find_27 (n := 30) rfl mv_X4_isPackedAt lk_X4_54 rfl (zrm (by decide) (by decide)) (Nat.le_of_ble_eq_true rfl) (c_X4_isPackedAt (by omega) (by omega) hb hPb) (fun r u hp => ?_)
        obtain ⟨rfl, rfl⟩ := hp
        refine z_ifB_eq dX4_find_30 (n := 33) (tg := 34) rfl (by decide) (fun c30 => ?_) (fun c30 => ?_)
        · refine z_iinc_2 dX4_find_34 (n := 37) rfl (by decide) (fun w h => by cases h; try rfl) ?_
          refine z_goto dX4_find_37 (n := 17) (by decide) ?_
          have h9 := ih (i + 1) (by omega) (fun p hp => by
            by_cases e : p = i
            · intro z; exact c30 (fun q a b => by rw [hR'.2 i (by omega) q a b, hP q a b, ← z, e])
            · exact h p (by omega))
          rw [show ((i + 1 : Nat) : Int) = (i : Int) + 1 by omega] at h9
          exact h9
        · refine z_ret_v dX4_find_33 rfl ?_
          have e : fs.getD i [] = xs := pv_inj ((hw.2 _ (getD_mem (by omega))).1.Ls hn6) (hx.Ls hn6) (hw.2 _ (getD_mem (by omega))).2 hc2 (fun q a b => by rw [← hR'.2 i (by omega) q a b, c30 q a b]; exact hP q a b)
          have hold : addW fs xs = fs := by
            unfold addW
            rw [if_neg (by omega), if_pos (by rw [← e]; exact getD_mem (by omega))]
          exact ⟨_, _, rfl, by rw [hold]; exact hR', hFs⟩
  refine z_aload_0 dX4_find_0 (n := 1) rfl ?_
  refine z_get dX4_find_1 (n := 4) rfl rfl fd_X4_30 rfl ?_
  refine z_bipush dX4_find_4 (n := 6) rfl (by decide) ?_
  refine z_icmp_le dX4_find_6 (n := 9) (tg := 10) rfl (by decide) (by first | assumption | exact ⟨by omega, by omega⟩ | exact zb_zr _) (by first | assumption | exact ⟨by omega, by omega⟩ | exact zb_zr _) (fun c6 => ?_) (fun c6 => ?_)
  · refine z_aload_0 dX4_find_10 (n := 11) rfl ?_
    refine z_aload_1 dX4_find_11 (n := 12) rfl ?_
    refine z_callV1v dX4_find_12 (n := 15) rfl mv_X4_pack lk_X4_51 rfl (zrm (by decide) (by decide)) (Nat.le_of_ble_eq_true rfl) (c_X4_pack hk hL (hx.Ls hn6) hc1 hc2) (fun u hp => ?_)
    obtain ⟨ar2, rfl, hF2, hP2⟩ := hp
    refine z_iconst dX4_find_15 (n := 16) rfl ?_
    refine z_istore_2 dX4_find_16 (n := 17) rfl (by decide) (fun w h => by cases h; try rfl) ?_
    exact HO (by omega) ar2 hF2 hP2 fs.length 0 (by omega) (fun p hp => by omega)
  · have hold : addW fs xs = fs := if_pos (by omega)
    refine z_ret_v dX4_find_9 rfl ?_
    exact ⟨_, _, rfl, by rw [hold]; exact hR, Fs.rf⟩
set_option maxHeartbeats 4000000 in
theorem c_X4_unpack {G : zG} {sz : zSz} {ar : zAr} {i0 : Nat} {n : Int} {fs : List (List Int)} (hn6 : n ≤ 6) (hi : i0 < fs.length) (hR : FR fs sz ar) (hw : Wok n fs)  : zSem G mX4_unpack 1 [zR 31, zI i0] (X sz ar) (zpv fun u => zLP 34 (fs.getD i0 []) sz ar u) := by
  refine z_enter (L' := [some (zR 31), some (zI i0), none, none, none, none]) (by decide +kernel) (Nat.le_of_ble_eq_true rfl) ⟨4, rfl⟩ ?_
  have hlen := hw.1
  have hxs := hw.2 _ (getD_mem hi)
  have hb := hR.bnd hw hn6 hi
  generalize hxe : fs.getD i0 [] = xs at hxs ⊢
  have hx := hxs.1.Ls hn6
  have hv : ∀ q : Int, 0 ≤ q → q < 8 → ar 32 (i0 * 8 + q) = pv xs q := fun q a b => by rw [hR.2 i0 hi q a b, hxe]
  have hk34 : isL 34 := by unfold isL; omega
  have hcap : cap 34 = 128 := rfl
  have HO : ∀ (m i : Nat) (sz' : zSz) (ar' : zAr) (y5 : Option zV) (y3 : Option zV), i + m = 128 → i ≤ xs.length → LR (sz' 34 1) (ar' 35) (xs.take i) → Fr 34 sz ar sz' ar' → zWP G mX4_unpack 1 (zpv (zLP 34 xs sz ar)) 20 [some (zR 31), some (zI i0), some (zI i), y3, none, y5] [] (X sz' ar') := by
    intro m
    induction m with
    | zero =>
      intro i sz' ar' y5 y3 hm hi2 hL hF
      have e : xs.take i = xs := List.take_of_length_le (by omega)
      rw [e] at hL
      refine z_iload_2 dX4_unpack_20 (n := 21) rfl ?_
      refine z_sipush dX4_unpack_21 (n := 24) rfl (by decide) ?_
      refine z_icmp_ge dX4_unpack_24 (n := 27) (tg := 81) rfl (by decide) (by first | assumption | exact ⟨by omega, by omega⟩ | exact zb_zr _) (by first | assumption | exact ⟨by omega, by omega⟩ | exact zb_zr _) (fun c24 => ?_) (fun c24 => ?_)
      · refine z_ret_v dX4_unpack_81 rfl ?_
        exact ⟨_, _, rfl, hL, hF⟩
      · exfalso; omega
    | succ m ih =>
      intro i sz' ar' y5 y3 hm hi2 hL hF
      have hl := hL.1
      rw [List.length_take, Nat.min_eq_left hi2] at hl
      have e32 : ar' 32 = ar 32 := hF.2 32 (by decide)
      have hq := hv ((i : Int) / 16) (by omega) (by omega)
      have hbq := hb ((i : Int) / 16) (by omega) (by omega)
      have e1 : (4 * ((i : Int) % 16)).toNat = 4 * (i % 16) := by omega
      have hdg := pv_dig hx i
      rw [show ((i / 16 : Nat) : Int) = (i : Int) / 16 by omega] at hdg
      have hdr := dg_r hx (Nat.le_refl _) i
      refine z_iload_2 dX4_unpack_20 (n := 21) rfl ?_
      refine z_sipush dX4_unpack_21 (n := 24) rfl (by decide) ?_
      refine z_icmp_ge dX4_unpack_24 (n := 27) (tg := 81) rfl (by decide) (by first | assumption | exact ⟨by omega, by omega⟩ | exact zb_zr _) (by first | assumption | exact ⟨by omega, by omega⟩ | exact zb_zr _) (fun c24 => ?_) (fun c24 => ?_)
      · exfalso; omega
      · refine z_aload_0 dX4_unpack_27 (n := 28) rfl ?_
        refine z_get dX4_unpack_28 (n := 31) rfl rfl fd_X4_9 rfl ?_
        refine z_iload_1 dX4_unpack_31 (n := 32) rfl ?_
        refine z_bipush dX4_unpack_32 (n := 34) rfl (by decide) ?_
        refine z_imul dX4_unpack_34 (n := 35) rfl ?_
        refine z_iload_2 dX4_unpack_35 (n := 36) rfl ?_
        refine z_bipush dX4_unpack_36 (n := 38) rfl (by decide) ?_
        refine z_idiv dX4_unpack_38 (n := 39) rfl (by omega) (by omega) (by omega) (by omega) ?_
        refine z_iadd dX4_unpack_39 (n := 40) rfl ?_
        refine z_lald dX4_unpack_40 (n := 41) rfl rfl (by omega) (by omega) (by decide) ?_
        refine z_lstore_3 dX4_unpack_41 (n := 42) rfl (by decide) (fun w h => by cases h; try rfl) ?_
        refine z_lload_3 dX4_unpack_42 (n := 43) rfl ?_
        refine z_iconst dX4_unpack_43 (n := 44) rfl ?_
        refine z_iload_2 dX4_unpack_44 (n := 45) rfl ?_
        refine z_bipush dX4_unpack_45 (n := 47) rfl (by decide) ?_
        refine z_irem dX4_unpack_47 (n := 48) rfl (by omega) (by omega) (by omega) (by omega) ?_
        refine z_imul dX4_unpack_48 (n := 49) rfl ?_
        rw [e32]
        refine z_lshrU dX4_unpack_49 (n := 50) rfl hbq.1 hbq.2 (by omega) (by omega) (fun b hb16 => ?_)
        rw [hq, e1, hdg] at hb16
        refine z_ldc2 dX4_unpack_50 (n := 53) rfl kn_X4_74 ?_
        refine z_land15 dX4_unpack_53 (n := 54) rfl ?_
        rw [hb16]
        refine z_l2i dX4_unpack_54 (n := 55) rfl ?_
        refine z_iconst dX4_unpack_55 (n := 56) rfl ?_
        refine z_isub dX4_unpack_56 (n := 57) rfl ?_
        refine z_istore_5 dX4_unpack_57 (n := 59) rfl (by decide) (fun w h => by cases h; try rfl) ?_
        refine z_iload_5 dX4_unpack_59 (n := 61) rfl ?_
        refine z_iconst dX4_unpack_61 (n := 62) rfl ?_
        refine z_icmp_ne dX4_unpack_62 (n := 65) (tg := 66) rfl (by decide) (by first | assumption | exact ⟨by omega, by omega⟩ | exact zb_zr _) (by first | assumption | exact ⟨by omega, by omega⟩ | exact zb_zr _) (fun c62 => ?_) (fun c62 => ?_)
        · have hlt : i < xs.length := by
            rcases Nat.lt_or_ge i xs.length with q | q
            · exact q
            · exact absurd (by unfold dg; rw [if_neg (by omega)]; rfl) c62
          have hdv : dg xs xs.length i - 1 = xs.getD i 0 := by unfold dg; rw [if_pos hlt]; omega
          rw [hdv]
          refine z_aload_0 dX4_unpack_66 (n := 67) rfl ?_
          refine z_get dX4_unpack_67 (n := 70) rfl rfl fd_X4_23 rfl ?_
          refine z_iload_5 dX4_unpack_70 (n := 72) rfl ?_
          refine z_callV1v dX4_unpack_72 (n := 75) rfl mv_X1_addAsIs lk_X4_76 rfl (zrm (by decide) (by decide)) (Nat.le_of_ble_eq_true rfl) (c_X1_addAsIs hk34 (by omega) (by omega)) (fun u hp => ?_)
          subst hp
          refine z_iinc_2 dX4_unpack_75 (n := 78) rfl (by decide) (fun w h => by cases h; try rfl) ?_
          refine z_goto dX4_unpack_78 (n := 20) (by decide) ?_
          have h9 := ih (i + 1) (zz sz' 34 1 (sz' 34 1 + 1)) (zq ar' 35 (zf (ar' 35) (sz' 34 1) (xs.getD i 0))) (some (zI (xs.getD i 0))) (some (zL (ar 32 (i0 * 8 + (i : Int) / 16)))) (by omega) (by omega) (by rw [zz_eq, zq_eq, List.take_succ, List.getElem?_eq_getElem hlt]; have h8 := hL.add (l := xs.getD i 0); rw [List.getD_eq_getElem?_getD, List.getElem?_eq_getElem hlt] at h8 ⊢; exact h8) (hF.tr ⟨fun j hj => zz_ne hj, fun j hj => zq_ne hj⟩)
          rw [show ((i + 1 : Nat) : Int) = (i : Int) + 1 by omega] at h9
          exact h9
        · refine z_ret_v dX4_unpack_65 rfl ?_
          have hend : ¬ i < xs.length := fun z => by unfold dg at c62; rw [if_pos z] at c62; have hz := hx _ (LR.mem (n := xs.length) (f := fun k => xs.getD k.toNat 0) (i := i) ⟨rfl, fun k _ => by simp⟩ (by omega) (by omega)); simp at hz; simp only [List.getD_eq_getElem?_getD] at c62; omega
          have e : xs.take i = xs := List.take_of_length_le (by omega)
          rw [e] at hL
          exact ⟨_, _, rfl, hL, hF⟩
  refine z_aload_0 dX4_unpack_0 (n := 1) rfl ?_
  refine z_get dX4_unpack_1 (n := 4) rfl rfl fd_X4_23 rfl ?_
  refine z_callV0v dX4_unpack_4 (n := 7) rfl mv_X1_clear lk_X4_71 rfl (zrm (by decide) (by decide)) (Nat.le_of_ble_eq_true rfl) (c_X1_clear hk34) (fun u hp => ?_)
  subst hp
  refine z_iload_1 dX4_unpack_7 (n := 8) rfl ?_
  refine z_if_lt dX4_unpack_8 (n := 11) (tg := 17) rfl (by decide) (by first | assumption | exact ⟨by omega, by omega⟩ | exact zb_zr _) (fun c8 => ?_) (fun c8 => ?_)
  · exfalso; omega
  · refine z_iload_1 dX4_unpack_11 (n := 12) rfl ?_
    refine z_bipush dX4_unpack_12 (n := 14) rfl (by decide) ?_
    refine z_icmp_le dX4_unpack_14 (n := 17) (tg := 18) rfl (by decide) (by first | assumption | exact ⟨by omega, by omega⟩ | exact zb_zr _) (by first | assumption | exact ⟨by omega, by omega⟩ | exact zb_zr _) (fun c14 => ?_) (fun c14 => ?_)
    · refine z_iconst dX4_unpack_18 (n := 19) rfl ?_
      refine z_istore_2 dX4_unpack_19 (n := 20) rfl (by decide) (fun w h => by cases h; try rfl) ?_
      exact HO 128 0 _ _ none none (by omega) (by omega) (by rw [zz_eq]; exact LR.nil) ⟨fun j hj => zz_ne hj, fun j hj => rfl⟩
    · exfalso; omega
/-- what a search may change -/
def Ft (sz : zSz) (ar : zAr) (sz' : zSz) (ar' : zAr) : Prop := (∀ j, j ≠ 31 → j ≠ 34 → j ≠ 36 → sz' j = sz j) ∧ ∀ j, j ≠ 32 → j ≠ 33 → j ≠ 35 → j ≠ 37 → ar' j = ar j
theorem Ft.rf {sz : zSz} {ar : zAr} : Ft sz ar sz ar := ⟨fun _ _ _ _ => rfl, fun _ _ _ _ _ => rfl⟩
theorem Ft.s {sz sz' sz'' : zSz} {ar ar' ar'' : zAr} (h : Ft sz ar sz' ar') (h2 : Fs sz' ar' sz'' ar'') : Ft sz ar sz'' ar'' := ⟨fun j a b c => (h2.1 j a).trans (h.1 j a b c), fun j a b c d => (h2.2 j a b).trans (h.2 j a b c d)⟩
theorem Ft.l {k : Nat} {sz sz' sz'' : zSz} {ar ar' ar'' : zAr} (h : Ft sz ar sz' ar') (hk : k = 34 ∨ k = 36) (h2 : Fr k sz' ar' sz'' ar'') : Ft sz ar sz'' ar'' := ⟨fun j a b c => (h2.1 j (by omega)).trans (h.1 j a b c), fun j a b c d => (h2.2 j (by omega)).trans (h.2 j a b c d)⟩
theorem Ft.tr {sz sz' sz'' : zSz} {ar ar' ar'' : zAr} (h : Ft sz ar sz' ar') (h2 : Ft sz' ar' sz'' ar'') : Ft sz ar sz'' ar'' := ⟨fun j a b c => (h2.1 j a b c).trans (h.1 j a b c), fun j a b c d => (h2.2 j a b c d).trans (h.2 j a b c d)⟩
theorem FR.l {k : Nat} {fs : List (List Int)} {sz sz' : zSz} {ar ar' : zAr} (h : FR fs sz ar) (hk : k = 34 ∨ k = 36) (h2 : Fr k sz ar sz' ar') : FR fs sz' ar' := by
  unfold FR
  rw [h2.1 31 (by omega), h2.2 32 (by omega)]
  exact h
theorem Ft.M {sz sz' : zSz} {ar ar' : zAr} (h : Ft sz ar sz' ar') (hM : MOK (sz 3 4) (ar 4) (ar 5)) : MOK (sz' 3 4) (ar' 4) (ar' 5) ∧ sz' 3 = sz 3 ∧ ar' 4 = ar 4 ∧ ar' 5 = ar 5 := by
  have e3 := h.1 3 (by decide) (by decide) (by decide)
  have e4 := h.2 4 (by decide) (by decide) (by decide) (by decide)
  have e5 := h.2 5 (by decide) (by decide) (by decide) (by decide)
  rw [e3, e4, e5]
  exact ⟨hM, rfl, rfl, rfl⟩
theorem iL34 : isL 34 := by unfold isL; omega
theorem iL36 : isL 36 := by unfold isL; omega
theorem iL38 : isL 38 := by unfold isL; omega
set_option maxHeartbeats 8000000 in
theorem lo_X4_tellNothing {G : zG} {sz : zSz} {ar : zAr} {k : Nat} (hM : MOK (sz 3 4) (ar 4) (ar 5)) :
    ∀ (m i : Nat) (fs : List (List Int)) (sz' : zSz) (ar' : zAr) (y : Option zV), i + m = 40 → FR fs sz' ar' → Wok (sz 3 4) fs → Ft sz ar sz' ar' →
    zWP G mX4_tellNothing 4 (zpi fun r u => r = bfs (ar 4) (ar 5) m fs i ∧ ∃ sz'' ar'', u = X sz'' ar'' ∧ Ft sz ar sz'' ar'') 12 [some (zR 31), some (zR 3), some (zR k), some (zI i), y] [] (X sz' ar') := by
  have hn := hM.1
  have hn6 := hM.2.1
  intro m
  induction m with
  | zero =>
    intro i fs sz' ar' y hi hR hw hF
    have hs := hR.1
    have hlen := hw.1
    refine z_iload_3 dX4_tellNothing_12 (n := 13) rfl ?_
    refine z_bipush dX4_tellNothing_13 (n := 15) rfl (by decide) ?_
    refine z_icmp_ge dX4_tellNothing_15 (n := 18) (tg := 87) rfl (by decide) (by first | assumption | exact ⟨by omega, by omega⟩ | exact zb_zr _) (by first | assumption | exact ⟨by omega, by omega⟩ | exact zb_zr _) (fun c15 => ?_) (fun c15 => ?_)
    · refine z_aload_0 dX4_tellNothing_87 (n := 88) rfl ?_
      refine z_get dX4_tellNothing_88 (n := 91) rfl rfl fd_X4_30 rfl ?_
      refine z_bipush dX4_tellNothing_91 (n := 93) rfl (by decide) ?_
      refine z_icmp_le dX4_tellNothing_93 (n := 96) (tg := 100) rfl (by decide) (by first | assumption | exact ⟨by omega, by omega⟩ | exact zb_zr _) (by first | assumption | exact ⟨by omega, by omega⟩ | exact zb_zr _) (fun c93 => ?_) (fun c93 => ?_)
      · refine z_iconst dX4_tellNothing_100 (n := 101) rfl ?_
        refine z_ret_i dX4_tellNothing_101 rfl ?_
        first | exact ⟨(if_pos (by omega)).symm, _, _, rfl, hF⟩ | exact ⟨(if_neg (by omega)).symm, _, _, rfl, hF⟩
      · refine z_iconst dX4_tellNothing_96 (n := 97) rfl ?_
        refine z_goto dX4_tellNothing_97 (n := 101) (by decide) ?_
        refine z_ret_i dX4_tellNothing_101 rfl ?_
        first | exact ⟨(if_pos (by omega)).symm, _, _, rfl, hF⟩ | exact ⟨(if_neg (by omega)).symm, _, _, rfl, hF⟩
    · exfalso; omega
  | succ m ih =>
    intro i fs sz' ar' y hi hR hw hF
    have hs := hR.1
    have hlen := hw.1
    refine z_iload_3 dX4_tellNothing_12 (n := 13) rfl ?_
    refine z_bipush dX4_tellNothing_13 (n := 15) rfl (by decide) ?_
    refine z_icmp_ge dX4_tellNothing_15 (n := 18) (tg := 87) rfl (by decide) (by first | assumption | exact ⟨by omega, by omega⟩ | exact zb_zr _) (by first | assumption | exact ⟨by omega, by omega⟩ | exact zb_zr _) (fun c15 => ?_) (fun c15 => ?_)
    · exfalso; omega
    · refine z_iload_3 dX4_tellNothing_18 (n := 19) rfl ?_
      refine z_aload_0 dX4_tellNothing_19 (n := 20) rfl ?_
      refine z_get dX4_tellNothing_20 (n := 23) rfl rfl fd_X4_30 rfl ?_
      refine z_icmp_ge dX4_tellNothing_23 (n := 26) (tg := 87) rfl (by decide) (by first | assumption | exact ⟨by omega, by omega⟩ | exact zb_zr _) (by first | assumption | exact ⟨by omega, by omega⟩ | exact zb_zr _) (fun c23 => ?_) (fun c23 => ?_)
      · refine z_aload_0 dX4_tellNothing_87 (n := 88) rfl ?_
        refine z_get dX4_tellNothing_88 (n := 91) rfl rfl fd_X4_30 rfl ?_
        refine z_bipush dX4_tellNothing_91 (n := 93) rfl (by decide) ?_
        refine z_icmp_le dX4_tellNothing_93 (n := 96) (tg := 100) rfl (by decide) (by first | assumption | exact ⟨by omega, by omega⟩ | exact zb_zr _) (by first | assumption | exact ⟨by omega, by omega⟩ | exact zb_zr _) (fun c93 => ?_) (fun c93 => ?_)
        · refine z_iconst dX4_tellNothing_100 (n := 101) rfl ?_
          refine z_ret_i dX4_tellNothing_101 rfl ?_
          first | exact ⟨by unfold bfs; rw [if_neg (by omega), if_pos (by omega)], _, _, rfl, hF⟩ | exact ⟨by unfold bfs; rw [if_neg (by omega), if_neg (by omega)], _, _, rfl, hF⟩
        · refine z_iconst dX4_tellNothing_96 (n := 97) rfl ?_
          refine z_goto dX4_tellNothing_97 (n := 101) (by decide) ?_
          refine z_ret_i dX4_tellNothing_101 rfl ?_
          first | exact ⟨by unfold bfs; rw [if_neg (by omega), if_pos (by omega)], _, _, rfl, hF⟩ | exact ⟨by unfold bfs; rw [if_neg (by omega), if_neg (by omega)], _, _, rfl, hF⟩
      · have hilt : i < fs.length := by omega
        have hwi := hw.2 _ (getD_mem hilt)
        have hwf := fps_r (ar 4) (fs.getD i []) 0 (by omega) (by omega)
        refine z_aload_0 dX4_tellNothing_26 (n := 27) rfl ?_
        refine z_iload_3 dX4_tellNothing_27 (n := 28) rfl ?_
        refine z_callV1v dX4_tellNothing_28 (n := 31) rfl mv_X4_unpack lk_X4_38 rfl (zrm (by decide) (by decide)) (Nat.le_of_ble_eq_true rfl) (c_X4_unpack hn6 hilt hR hw) (fun u hp => ?_)
        obtain ⟨sz2, ar2, rfl, hL2, hF2⟩ := hp
        replace hR := hR.l (Or.inl rfl) hF2
        replace hF := hF.l (Or.inl rfl) hF2
        obtain ⟨hM2, e3, e4, e5⟩ := hF.M hM
        refine z_aload_1 dX4_tellNothing_31 (n := 32) rfl ?_
        refine z_aload_0 dX4_tellNothing_32 (n := 33) rfl ?_
        refine z_get dX4_tellNothing_33 (n := 36) rfl rfl fd_X4_23 rfl ?_
        refine z_callV1i dX4_tellNothing_36 (n := 39) rfl mv_X3_flipsFirstSign lk_X4_41 rfl (zrm (by decide) (by decide)) (Nat.le_of_ble_eq_true rfl) (c_X3_flipsFirstSign iL34 hM2 hL2 (by rw [e3]; exact hwi.1) (show _ ≤ 128 from hwi.2)) (fun r u hp => ?_)
        obtain ⟨rfl, rfl⟩ := hp
        rw [e4]
        refine z_if_eq dX4_tellNothing_39 (n := 42) (tg := 44) rfl (by decide) (by first | assumption | exact ⟨by omega, by omega⟩ | exact zb_zr _) (fun c39 => ?_) (fun c39 => ?_)
        · refine z_iconst dX4_tellNothing_44 (n := 45) rfl ?_
          refine z_istore_4 dX4_tellNothing_45 (n := 47) rfl (by decide) (fun w h => by cases h; try rfl) ?_
          refine z_iload_4 dX4_tellNothing_47 (n := 49) rfl ?_
          refine z_iconst dX4_tellNothing_49 (n := 50) rfl ?_
          refine z_icmp_gt dX4_tellNothing_50 (n := 53) (tg := 81) rfl (by decide) (by first | assumption | exact ⟨by omega, by omega⟩ | exact zb_zr _) (by first | assumption | exact ⟨by omega, by omega⟩ | exact zb_zr _) (fun c50 => ?_) (fun c50 => ?_)
          · exfalso; omega
          · refine z_aload_1 dX4_tellNothing_53 (n := 54) rfl ?_
            refine z_aload_0 dX4_tellNothing_54 (n := 55) rfl ?_
            refine z_get dX4_tellNothing_55 (n := 58) rfl rfl fd_X4_23 rfl ?_
            refine z_iload_4 dX4_tellNothing_58 (n := 60) rfl ?_
            refine z_aload_0 dX4_tellNothing_60 (n := 61) rfl ?_
            refine z_get dX4_tellNothing_61 (n := 64) rfl rfl fd_X4_27 rfl ?_
            refine z_callV3v dX4_tellNothing_64 (n := 67) rfl mv_X3_putSection lk_X4_47 rfl (zrm (by decide) (by decide)) (Nat.le_of_ble_eq_true rfl) (c_X3_putSection iL34 iL36 (by decide) hM2 hL2 (by rw [e3]; exact hwi.1) (show _ ≤ 128 from hwi.2) (show _ ≤ 128 from hwi.2) (by omega) (by omega)) (fun u hp => ?_)
            obtain ⟨sz3, ar3, rfl, hL3, hF3⟩ := hp
            rw [e4, e5] at hL3
            have hL2 := hF3.L iL36 iL34 (by decide) hL2
            replace hR := hR.l (Or.inr rfl) hF3
            replace hF := hF.l (Or.inr rfl) hF3
            have hs0 := sec_ok hM hwi.1 (b := 0) (by omega) (by omega)
            refine z_aload_0 dX4_tellNothing_67 (n := 68) rfl ?_
            refine z_aload_0 dX4_tellNothing_68 (n := 69) rfl ?_
            refine z_get dX4_tellNothing_69 (n := 72) rfl rfl fd_X4_27 rfl ?_
            refine z_callV1v dX4_tellNothing_72 (n := 75) rfl mv_X4_find lk_X4_34 rfl (zrm (by decide) (by decide)) (Nat.le_of_ble_eq_true rfl) (c_X4_find iL36 hn6 hL3 hs0.1 (show _ ≤ 128 by omega) (by omega) hR hw) (fun u hp => ?_)
            obtain ⟨sz4, ar4, rfl, hR4, hF4⟩ := hp
            have hL2 : LR (sz4 34 1) (ar4 35) (fs.getD i []) := by rw [hF4.1 34 (by decide), hF4.2 35 (by decide) (by decide)]; exact hL2
            replace hF := hF.s hF4
            obtain ⟨hM2, e3, e4, e5⟩ := hF.M hM
            have hw1 := hw.add hs0.1 (by omega)
            refine z_iinc_4 dX4_tellNothing_75 (n := 78) rfl (by decide) (fun w h => by cases h; try rfl) ?_
            refine z_goto dX4_tellNothing_78 (n := 47) (by decide) ?_
            rw [show (0 : Int) + 1 = 1 from rfl]
            refine z_iload_4 dX4_tellNothing_47 (n := 49) rfl ?_
            refine z_iconst dX4_tellNothing_49 (n := 50) rfl ?_
            refine z_icmp_gt dX4_tellNothing_50 (n := 53) (tg := 81) rfl (by decide) (by first | assumption | exact ⟨by omega, by omega⟩ | exact zb_zr _) (by first | assumption | exact ⟨by omega, by omega⟩ | exact zb_zr _) (fun c50 => ?_) (fun c50 => ?_)
            · exfalso; omega
            · refine z_aload_1 dX4_tellNothing_53 (n := 54) rfl ?_
              refine z_aload_0 dX4_tellNothing_54 (n := 55) rfl ?_
              refine z_get dX4_tellNothing_55 (n := 58) rfl rfl fd_X4_23 rfl ?_
              refine z_iload_4 dX4_tellNothing_58 (n := 60) rfl ?_
              refine z_aload_0 dX4_tellNothing_60 (n := 61) rfl ?_
              refine z_get dX4_tellNothing_61 (n := 64) rfl rfl fd_X4_27 rfl ?_
              refine z_callV3v dX4_tellNothing_64 (n := 67) rfl mv_X3_putSection lk_X4_47 rfl (zrm (by decide) (by decide)) (Nat.le_of_ble_eq_true rfl) (c_X3_putSection iL34 iL36 (by decide) hM2 hL2 (by rw [e3]; exact hwi.1) (show _ ≤ 128 from hwi.2) (show _ ≤ 128 from hwi.2) (by omega) (by omega)) (fun u hp => ?_)
              obtain ⟨sz5, ar5, rfl, hL5, hF5⟩ := hp
              rw [e4, e5] at hL5
              replace hR4 := hR4.l (Or.inr rfl) hF5
              replace hF := hF.l (Or.inr rfl) hF5
              have hs1 := sec_ok hM hwi.1 (b := 1) (by omega) (by omega)
              refine z_aload_0 dX4_tellNothing_67 (n := 68) rfl ?_
              refine z_aload_0 dX4_tellNothing_68 (n := 69) rfl ?_
              refine z_get dX4_tellNothing_69 (n := 72) rfl rfl fd_X4_27 rfl ?_
              refine z_callV1v dX4_tellNothing_72 (n := 75) rfl mv_X4_find lk_X4_34 rfl (zrm (by decide) (by decide)) (Nat.le_of_ble_eq_true rfl) (c_X4_find iL36 hn6 hL5 hs1.1 (show _ ≤ 128 by omega) (by omega) hR4 hw1) (fun u hp => ?_)
              obtain ⟨sz6, ar6, rfl, hR6, hF6⟩ := hp
              replace hF := hF.s hF6
              have hw2 := hw1.add hs1.1 (by omega)
              refine z_iinc_4 dX4_tellNothing_75 (n := 78) rfl (by decide) (fun w h => by cases h; try rfl) ?_
              refine z_goto dX4_tellNothing_78 (n := 47) (by decide) ?_
              rw [show (1 : Int) + 1 = 2 from rfl]
              refine z_iload_4 dX4_tellNothing_47 (n := 49) rfl ?_
              refine z_iconst dX4_tellNothing_49 (n := 50) rfl ?_
              refine z_icmp_gt dX4_tellNothing_50 (n := 53) (tg := 81) rfl (by decide) (by first | assumption | exact ⟨by omega, by omega⟩ | exact zb_zr _) (by first | assumption | exact ⟨by omega, by omega⟩ | exact zb_zr _) (fun c50 => ?_) (fun c50 => ?_)
              · refine z_iinc_3 dX4_tellNothing_81 (n := 84) rfl (by decide) (fun w h => by cases h; try rfl) ?_
                refine z_goto dX4_tellNothing_84 (n := 12) (by decide) ?_
                have h9 := ih (i + 1) _ sz6 ar6 (some (zI 2)) (by omega) hR6 hw2 hF
                rw [show ((i + 1 : Nat) : Int) = (i : Int) + 1 by omega] at h9
                rw [bfs_go hilt (by omega)]
                exact h9
              · exfalso; omega
        · refine z_iconst dX4_tellNothing_42 (n := 43) rfl ?_
          refine z_ret_i dX4_tellNothing_43 rfl ?_
          exact ⟨by unfold bfs; rw [if_pos hilt, if_pos (by omega)], _, _, rfl, hF⟩
set_option maxHeartbeats 4000000 in
theorem c_X4_tellNothing {G : zG} {sz : zSz} {ar : zAr} {k : Nat} {xs : List Int} (hk : isL k) (hM : MOK (sz 3 4) (ar 4) (ar 5)) (hL : LR (sz k 1) (ar (k + 1)) xs) (hx : Lt (sz 3 4) xs) (hc1 : xs.length ≤ cap k) (hc2 : xs.length ≤ 128)  : zSem G mX4_tellNothing 4 [zR 31, zR 3, zR k] (X sz ar) (zpi fun r u => r = ntw (ar 4) (ar 5) xs ∧ ∃ sz' ar', u = X sz' ar' ∧ Ft sz ar sz' ar') := by
  refine z_enter (L' := [some (zR 31), some (zR 3), some (zR k), none, none]) (by decide +kernel) (Nat.le_of_ble_eq_true rfl) ⟨2, rfl⟩ ?_
  have hn6 := hM.2.1
  have hk31 : k ≠ 31 ∧ k + 1 ≠ 32 ∧ k + 1 ≠ 33 := by unfold isL at hk; omega
  have hR0 : FR [] (zz sz 31 4 0) ar := ⟨by rw [zz_eq]; rfl, fun p hp => by simp at hp⟩
  have hw0 : Wok (sz 3 4) [] := ⟨by simp, fun w hw => by cases hw⟩
  have hF0 : Ft sz ar (zz sz 31 4 0) ar := ⟨fun j a _ _ => zz_ne a, fun j _ _ _ _ => rfl⟩
  have hL0 : LR (zz sz 31 4 0 k 1) (ar (k + 1)) xs := by rw [zz_ne hk31.1]; exact hL
  refine z_aload_0 dX4_tellNothing_0 (n := 1) rfl ?_
  refine z_iconst dX4_tellNothing_1 (n := 2) rfl ?_
  refine z_putX dX4_tellNothing_2 (n := 5) rfl rfl fw_X4_30 (by first | decide | simp) rfl ?_
  refine z_aload_0 dX4_tellNothing_5 (n := 6) rfl ?_
  refine z_aload_2 dX4_tellNothing_6 (n := 7) rfl ?_
  refine z_callV1v dX4_tellNothing_7 (n := 10) rfl mv_X4_find lk_X4_34 rfl (zrm (by decide) (by decide)) (Nat.le_of_ble_eq_true rfl) (c_X4_find hk hn6 hL0 hx hc1 hc2 hR0 hw0) (fun u hp => ?_)
  obtain ⟨sz2, ar2, rfl, hR2, hF2⟩ := hp
  refine z_iconst dX4_tellNothing_10 (n := 11) rfl ?_
  refine z_istore_3 dX4_tellNothing_11 (n := 12) rfl (by decide) (fun w h => by cases h; try rfl) ?_
  exact lo_X4_tellNothing hM 40 0 [xs] sz2 ar2 none (by omega) hR2 (hw0.add hx hc2) (hF0.s hF2)
