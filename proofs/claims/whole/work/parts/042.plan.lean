/-! Plan: the machine -/
set_option maxHeartbeats 4000000 in
theorem c_X3_size {G : zG} {sz : zSz} {ar : zAr}  : zSem G mX3_size 0 [zR 3] (X sz ar) (zpi fun r u => r = sz 3 4 ∧ u = X sz ar) := by
  refine z_enter (L' := [some (zR 3)]) (by decide +kernel) (Nat.le_of_ble_eq_true rfl) ⟨0, rfl⟩ ?_
  refine z_aload_0 dX3_size_0 (n := 1) rfl ?_
  refine z_get dX3_size_1 (n := 4) rfl rfl fd_X3_24 rfl ?_
  refine z_ret_i dX3_size_4 rfl ?_
  exact ⟨rfl, rfl⟩
set_option maxHeartbeats 4000000 in
theorem c_X3_has {G : zG} {sz : zSz} {ar : zAr} {s : Int} (hs : zr s) (hn : zr (sz 3 4))  : zSem G mX3_has 0 [zR 3, zI s] (X sz ar) (zpi fun r u => r = zb (0 ≤ s ∧ s < sz 3 4) ∧ u = X sz ar) := by
  refine z_enter (L' := [some (zR 3), some (zI s)]) (by decide +kernel) (Nat.le_of_ble_eq_true rfl) ⟨0, rfl⟩ ?_
  refine z_iload_1 dX3_has_0 (n := 1) rfl ?_
  refine z_if_lt dX3_has_1 (n := 4) (tg := 16) rfl (by decide) (by first | assumption | exact ⟨by omega, by omega⟩ | exact zb_zr _) (fun c1 => ?_) (fun c1 => ?_)
  · refine z_iconst dX3_has_16 (n := 17) rfl ?_
    refine z_ret_z dX3_has_17 rfl (by first | exact Or.inl rfl | exact Or.inr rfl | exact zb_or _) ?_
    first | exact ⟨(zb_t (by omega)).symm, rfl⟩ | exact ⟨(zb_f (by omega)).symm, rfl⟩
  · refine z_iload_1 dX3_has_4 (n := 5) rfl ?_
    refine z_aload_0 dX3_has_5 (n := 6) rfl ?_
    refine z_get dX3_has_6 (n := 9) rfl rfl fd_X3_24 rfl ?_
    refine z_icmp_ge dX3_has_9 (n := 12) (tg := 16) rfl (by decide) (by first | assumption | exact ⟨by omega, by omega⟩ | exact zb_zr _) (by first | assumption | exact ⟨by omega, by omega⟩ | exact zb_zr _) (fun c9 => ?_) (fun c9 => ?_)
    · refine z_iconst dX3_has_16 (n := 17) rfl ?_
      refine z_ret_z dX3_has_17 rfl (by first | exact Or.inl rfl | exact Or.inr rfl | exact zb_or _) ?_
      first | exact ⟨(zb_t (by omega)).symm, rfl⟩ | exact ⟨(zb_f (by omega)).symm, rfl⟩
    · refine z_iconst dX3_has_12 (n := 13) rfl ?_
      refine z_goto dX3_has_13 (n := 17) (by decide) ?_
      refine z_ret_z dX3_has_17 rfl (by first | exact Or.inl rfl | exact Or.inr rfl | exact zb_or _) ?_
      first | exact ⟨(zb_t (by omega)).symm, rfl⟩ | exact ⟨(zb_f (by omega)).symm, rfl⟩
set_option maxHeartbeats 4000000 in
theorem c_X3_kindOf {G : zG} {sz : zSz} {ar : zAr} {s : Int} (hs : zr s) (hn : 0 ≤ sz 3 4 ∧ sz 3 4 ≤ 6)  : zSem G mX3_kindOf 1 [zR 3, zI s] (X sz ar) (zpi fun r u => r = (if 0 ≤ s ∧ s < sz 3 4 then ar 4 s else -1) ∧ u = X sz ar) := by
  refine z_enter (L' := [some (zR 3), some (zI s)]) (by decide +kernel) (Nat.le_of_ble_eq_true rfl) ⟨0, rfl⟩ ?_
  refine z_aload_0 dX3_kindOf_0 (n := 1) rfl ?_
  refine z_iload_1 dX3_kindOf_1 (n := 2) rfl ?_
  refine z_callV1i dX3_kindOf_2 (n := 5) rfl mv_X3_has lk_X3_61 rfl (zrm (by decide) (by decide)) (Nat.le_of_ble_eq_true rfl) (c_X3_has (by first | assumption | exact ⟨by omega, by omega⟩ | exact zb_zr _) (by first | assumption | exact ⟨by omega, by omega⟩ | exact zb_zr _)) (fun r u hp => ?_)
  obtain ⟨rfl, rfl⟩ := hp
  refine z_ifB_eq dX3_kindOf_5 (n := 8) (tg := 17) rfl (by decide) (fun c5 => ?_) (fun c5 => ?_)
  · refine z_iconst dX3_kindOf_17 (n := 18) rfl ?_
    refine z_ret_i dX3_kindOf_18 rfl ?_
    first | exact ⟨(if_pos (by omega)).symm, rfl⟩ | exact ⟨(if_neg (by omega)).symm, rfl⟩
  · refine z_aload_0 dX3_kindOf_8 (n := 9) rfl ?_
    refine z_get dX3_kindOf_9 (n := 12) rfl rfl fd_X3_9 rfl ?_
    refine z_iload_1 dX3_kindOf_12 (n := 13) rfl ?_
    refine z_iald dX3_kindOf_13 (n := 14) rfl rfl (by omega) (by omega) (by decide) ?_
    refine z_goto dX3_kindOf_14 (n := 18) (by decide) ?_
    refine z_ret_i dX3_kindOf_18 rfl ?_
    first | exact ⟨(if_pos (by omega)).symm, rfl⟩ | exact ⟨(if_neg (by omega)).symm, rfl⟩
set_option maxHeartbeats 4000000 in
theorem c_X3_setKind {G : zG} {sz : zSz} {ar : zAr} {s v : Int} (h0 : 0 ≤ s) (h1 : s < sz 3 4) (hn : sz 3 4 ≤ 6)  : zSem G mX3_setKind 1 [zR 3, zI s, zI v] (X sz ar) (zpv fun u => u = X sz (zq ar 4 (zf (ar 4) s v))) := by
  refine z_enter (L' := [some (zR 3), some (zI s), some (zI v)]) (by decide +kernel) (Nat.le_of_ble_eq_true rfl) ⟨0, rfl⟩ ?_
  refine z_aload_0 dX3_setKind_0 (n := 1) rfl ?_
  refine z_iload_1 dX3_setKind_1 (n := 2) rfl ?_
  refine z_callV1i dX3_setKind_2 (n := 5) rfl mv_X3_has lk_X3_61 rfl (zrm (by decide) (by decide)) (Nat.le_of_ble_eq_true rfl) (c_X3_has (by first | assumption | exact ⟨by omega, by omega⟩ | exact zb_zr _) (by first | assumption | exact ⟨by omega, by omega⟩ | exact zb_zr _)) (fun r u hp => ?_)
  obtain ⟨rfl, rfl⟩ := hp
  refine z_ifB_eq dX3_setKind_5 (n := 8) (tg := 15) rfl (by decide) (fun c5 => ?_) (fun c5 => ?_)
  · exfalso; omega
  · refine z_aload_0 dX3_setKind_8 (n := 9) rfl ?_
    refine z_get dX3_setKind_9 (n := 12) rfl rfl fd_X3_9 rfl ?_
    refine z_iload_1 dX3_setKind_12 (n := 13) rfl ?_
    refine z_iload_2 dX3_setKind_13 (n := 14) rfl ?_
    refine z_iastX dX3_setKind_14 (n := 15) rfl rfl (by omega) (by omega) (by decide) rfl ?_
    refine z_ret_v dX3_setKind_15 rfl ?_
    rfl
set_option maxHeartbeats 4000000 in
theorem c_X3_toldNext {G : zG} {sz : zSz} {ar : zAr} {s b : Int} (h0 : 0 ≤ s) (h1 : s < sz 3 4) (hn : sz 3 4 ≤ 6) (hb0 : 0 ≤ b) (hb1 : b ≤ 1)  : zSem G mX3_toldNext 1 [zR 3, zI s, zI b] (X sz ar) (zpi fun r u => r = ar 5 (2 * s + b) ∧ u = X sz ar) := by
  refine z_enter (L' := [some (zR 3), some (zI s), some (zI b)]) (by decide +kernel) (Nat.le_of_ble_eq_true rfl) ⟨0, rfl⟩ ?_
  refine z_aload_0 dX3_toldNext_0 (n := 1) rfl ?_
  refine z_iload_1 dX3_toldNext_1 (n := 2) rfl ?_
  refine z_callV1i dX3_toldNext_2 (n := 5) rfl mv_X3_has lk_X3_61 rfl (zrm (by decide) (by decide)) (Nat.le_of_ble_eq_true rfl) (c_X3_has (by first | assumption | exact ⟨by omega, by omega⟩ | exact zb_zr _) (by first | assumption | exact ⟨by omega, by omega⟩ | exact zb_zr _)) (fun r u hp => ?_)
  obtain ⟨rfl, rfl⟩ := hp
  refine z_ifB_eq dX3_toldNext_5 (n := 8) (tg := 28) rfl (by decide) (fun c5 => ?_) (fun c5 => ?_)
  · exfalso; omega
  · refine z_iload_2 dX3_toldNext_8 (n := 9) rfl ?_
    refine z_callN1i dX3_toldNext_9 (n := 12) rfl ms_X6_isSign lk_X3_65 (zrm (by decide) (by decide)) (Nat.le_of_ble_eq_true rfl) (c_X6_isSign (by first | assumption | exact ⟨by omega, by omega⟩ | exact zb_zr _)) (fun r u hp => ?_)
    obtain ⟨rfl, rfl⟩ := hp
    refine z_ifB_eq dX3_toldNext_12 (n := 15) (tg := 28) rfl (by decide) (fun c12 => ?_) (fun c12 => ?_)
    · exfalso; omega
    · refine z_aload_0 dX3_toldNext_15 (n := 16) rfl ?_
      refine z_get dX3_toldNext_16 (n := 19) rfl rfl fd_X3_15 rfl ?_
      refine z_iconst dX3_toldNext_19 (n := 20) rfl ?_
      refine z_iload_1 dX3_toldNext_20 (n := 21) rfl ?_
      refine z_imul dX3_toldNext_21 (n := 22) rfl ?_
      refine z_iload_2 dX3_toldNext_22 (n := 23) rfl ?_
      refine z_iadd dX3_toldNext_23 (n := 24) rfl ?_
      refine z_iald dX3_toldNext_24 (n := 25) rfl rfl (by omega) (by omega) (by decide) ?_
      refine z_goto dX3_toldNext_25 (n := 29) (by decide) ?_
      refine z_ret_i dX3_toldNext_29 rfl ?_
      exact ⟨rfl, rfl⟩
set_option maxHeartbeats 4000000 in
theorem c_X3_setNext {G : zG} {sz : zSz} {ar : zAr} {s b v : Int} (h0 : 0 ≤ s) (h1 : s < sz 3 4) (hn : sz 3 4 ≤ 6) (hb0 : 0 ≤ b) (hb1 : b ≤ 1)  : zSem G mX3_setNext 1 [zR 3, zI s, zI b, zI v] (X sz ar) (zpv fun u => u = X sz (zq ar 5 (zf (ar 5) (2 * s + b) v))) := by
  refine z_enter (L' := [some (zR 3), some (zI s), some (zI b), some (zI v)]) (by decide +kernel) (Nat.le_of_ble_eq_true rfl) ⟨0, rfl⟩ ?_
  refine z_aload_0 dX3_setNext_0 (n := 1) rfl ?_
  refine z_iload_1 dX3_setNext_1 (n := 2) rfl ?_
  refine z_callV1i dX3_setNext_2 (n := 5) rfl mv_X3_has lk_X3_61 rfl (zrm (by decide) (by decide)) (Nat.le_of_ble_eq_true rfl) (c_X3_has (by first | assumption | exact ⟨by omega, by omega⟩ | exact zb_zr _) (by first | assumption | exact ⟨by omega, by omega⟩ | exact zb_zr _)) (fun r u hp => ?_)
  obtain ⟨rfl, rfl⟩ := hp
  refine z_ifB_eq dX3_setNext_5 (n := 8) (tg := 26) rfl (by decide) (fun c5 => ?_) (fun c5 => ?_)
  · exfalso; omega
  · refine z_iload_2 dX3_setNext_8 (n := 9) rfl ?_
    refine z_callN1i dX3_setNext_9 (n := 12) rfl ms_X6_isSign lk_X3_65 (zrm (by decide) (by decide)) (Nat.le_of_ble_eq_true rfl) (c_X6_isSign (by first | assumption | exact ⟨by omega, by omega⟩ | exact zb_zr _)) (fun r u hp => ?_)
    obtain ⟨rfl, rfl⟩ := hp
    refine z_ifB_eq dX3_setNext_12 (n := 15) (tg := 26) rfl (by decide) (fun c12 => ?_) (fun c12 => ?_)
    · exfalso; omega
    · refine z_aload_0 dX3_setNext_15 (n := 16) rfl ?_
      refine z_get dX3_setNext_16 (n := 19) rfl rfl fd_X3_15 rfl ?_
      refine z_iconst dX3_setNext_19 (n := 20) rfl ?_
      refine z_iload_1 dX3_setNext_20 (n := 21) rfl ?_
      refine z_imul dX3_setNext_21 (n := 22) rfl ?_
      refine z_iload_2 dX3_setNext_22 (n := 23) rfl ?_
      refine z_iadd dX3_setNext_23 (n := 24) rfl ?_
      refine z_iload_3 dX3_setNext_24 (n := 25) rfl ?_
      refine z_iastX dX3_setNext_25 (n := 26) rfl rfl (by omega) (by omega) (by decide) rfl ?_
      refine z_ret_v dX3_setNext_26 rfl ?_
      rfl
set_option maxHeartbeats 4000000 in
theorem c_X3_flipsFirst {G : zG} {sz : zSz} {ar : zAr} {s : Int} (hs : zr s) (hM : MOK (sz 3 4) (ar 4) (ar 5))  : zSem G mX3_flipsFirst 0 [zR 3, zI s] (X sz ar) (zpi fun r u => r = zb (0 ≤ s ∧ s < sz 3 4 ∧ fl (ar 4) s) ∧ u = X sz ar) := by
  refine z_enter (L' := [some (zR 3), some (zI s), none]) (by decide +kernel) (Nat.le_of_ble_eq_true rfl) ⟨1, rfl⟩ ?_
  have hn := hM.1
  have hn6 := hM.2.1
  refine z_iload_1 dX3_flipsFirst_0 (n := 1) rfl ?_
  refine z_if_lt dX3_flipsFirst_1 (n := 4) (tg := 12) rfl (by decide) (by first | assumption | exact ⟨by omega, by omega⟩ | exact zb_zr _) (fun c1 => ?_) (fun c1 => ?_)
  · refine z_iconst dX3_flipsFirst_12 (n := 13) rfl ?_
    refine z_ret_z dX3_flipsFirst_13 rfl (by first | exact Or.inl rfl | exact Or.inr rfl | exact zb_or _) ?_
    first | exact ⟨(zb_t (by unfold fl; omega)).symm, rfl⟩ | exact ⟨(zb_f (by unfold fl; omega)).symm, rfl⟩
  · refine z_iload_1 dX3_flipsFirst_4 (n := 5) rfl ?_
    refine z_aload_0 dX3_flipsFirst_5 (n := 6) rfl ?_
    refine z_get dX3_flipsFirst_6 (n := 9) rfl rfl fd_X3_24 rfl ?_
    refine z_icmp_lt dX3_flipsFirst_9 (n := 12) (tg := 14) rfl (by decide) (by first | assumption | exact ⟨by omega, by omega⟩ | exact zb_zr _) (by first | assumption | exact ⟨by omega, by omega⟩ | exact zb_zr _) (fun c9 => ?_) (fun c9 => ?_)
    · have hk := hM.2.2.1 s (by omega) (by omega)
      refine z_aload_0 dX3_flipsFirst_14 (n := 15) rfl ?_
      refine z_get dX3_flipsFirst_15 (n := 18) rfl rfl fd_X3_9 rfl ?_
      refine z_iload_1 dX3_flipsFirst_18 (n := 19) rfl ?_
      refine z_iald dX3_flipsFirst_19 (n := 20) rfl rfl (by omega) (by omega) (by decide) ?_
      refine z_istore_2 dX3_flipsFirst_20 (n := 21) rfl (by decide) (fun w h => by cases h; try rfl) ?_
      refine z_iload_2 dX3_flipsFirst_21 (n := 22) rfl ?_
      refine z_iconst dX3_flipsFirst_22 (n := 23) rfl ?_
      refine z_icmp_eq dX3_flipsFirst_23 (n := 26) (tg := 36) rfl (by decide) (by first | assumption | exact ⟨by omega, by omega⟩ | exact zb_zr _) (by first | assumption | exact ⟨by omega, by omega⟩ | exact zb_zr _) (fun c23 => ?_) (fun c23 => ?_)
      · refine z_iconst dX3_flipsFirst_36 (n := 37) rfl ?_
        refine z_goto dX3_flipsFirst_37 (n := 41) (by decide) ?_
        refine z_ret_z dX3_flipsFirst_41 rfl (by first | exact Or.inl rfl | exact Or.inr rfl | exact zb_or _) ?_
        first | exact ⟨(zb_t (by unfold fl; omega)).symm, rfl⟩ | exact ⟨(zb_f (by unfold fl; omega)).symm, rfl⟩
      · refine z_iload_2 dX3_flipsFirst_26 (n := 27) rfl ?_
        refine z_iconst dX3_flipsFirst_27 (n := 28) rfl ?_
        refine z_icmp_eq dX3_flipsFirst_28 (n := 31) (tg := 36) rfl (by decide) (by first | assumption | exact ⟨by omega, by omega⟩ | exact zb_zr _) (by first | assumption | exact ⟨by omega, by omega⟩ | exact zb_zr _) (fun c28 => ?_) (fun c28 => ?_)
        · refine z_iconst dX3_flipsFirst_36 (n := 37) rfl ?_
          refine z_goto dX3_flipsFirst_37 (n := 41) (by decide) ?_
          refine z_ret_z dX3_flipsFirst_41 rfl (by first | exact Or.inl rfl | exact Or.inr rfl | exact zb_or _) ?_
          first | exact ⟨(zb_t (by unfold fl; omega)).symm, rfl⟩ | exact ⟨(zb_f (by unfold fl; omega)).symm, rfl⟩
        · refine z_iload_2 dX3_flipsFirst_31 (n := 32) rfl ?_
          refine z_iconst dX3_flipsFirst_32 (n := 33) rfl ?_
          refine z_icmp_ne dX3_flipsFirst_33 (n := 36) (tg := 40) rfl (by decide) (by first | assumption | exact ⟨by omega, by omega⟩ | exact zb_zr _) (by first | assumption | exact ⟨by omega, by omega⟩ | exact zb_zr _) (fun c33 => ?_) (fun c33 => ?_)
          · refine z_iconst dX3_flipsFirst_40 (n := 41) rfl ?_
            refine z_ret_z dX3_flipsFirst_41 rfl (by first | exact Or.inl rfl | exact Or.inr rfl | exact zb_or _) ?_
            first | exact ⟨(zb_t (by unfold fl; omega)).symm, rfl⟩ | exact ⟨(zb_f (by unfold fl; omega)).symm, rfl⟩
          · refine z_iconst dX3_flipsFirst_36 (n := 37) rfl ?_
            refine z_goto dX3_flipsFirst_37 (n := 41) (by decide) ?_
            refine z_ret_z dX3_flipsFirst_41 rfl (by first | exact Or.inl rfl | exact Or.inr rfl | exact zb_or _) ?_
            first | exact ⟨(zb_t (by unfold fl; omega)).symm, rfl⟩ | exact ⟨(zb_f (by unfold fl; omega)).symm, rfl⟩
    · refine z_iconst dX3_flipsFirst_12 (n := 13) rfl ?_
      refine z_ret_z dX3_flipsFirst_13 rfl (by first | exact Or.inl rfl | exact Or.inr rfl | exact zb_or _) ?_
      first | exact ⟨(zb_t (by unfold fl; omega)).symm, rfl⟩ | exact ⟨(zb_f (by unfold fl; omega)).symm, rfl⟩
set_option maxHeartbeats 4000000 in
theorem c_X3_goesOn {G : zG} {sz : zSz} {ar : zAr} {s w : Int} (hs : zr s) (hw : 0 ≤ w ∧ w ≤ 1) (hM : MOK (sz 3 4) (ar 4) (ar 5))  : zSem G mX3_goesOn 0 [zR 3, zI s, zI w] (X sz ar) (zpi fun r u => r = (if 0 ≤ s ∧ s < sz 3 4 then gon (ar 4) (ar 5) s w else -1) ∧ u = X sz ar) := by
  refine z_enter (L' := [some (zR 3), some (zI s), some (zI w), none]) (by decide +kernel) (Nat.le_of_ble_eq_true rfl) ⟨1, rfl⟩ ?_
  have hn := hM.1
  have hn6 := hM.2.1
  refine z_iload_1 dX3_goesOn_0 (n := 1) rfl ?_
  refine z_if_lt dX3_goesOn_1 (n := 4) (tg := 21) rfl (by decide) (by first | assumption | exact ⟨by omega, by omega⟩ | exact zb_zr _) (fun c1 => ?_) (fun c1 => ?_)
  · refine z_iconst dX3_goesOn_21 (n := 22) rfl ?_
    refine z_ret_i dX3_goesOn_22 rfl ?_
    first | exact ⟨(if_neg (by omega)).symm, rfl⟩ | exact ⟨by unfold gon; rw [if_neg (by omega), if_neg (by omega)], rfl⟩ | exact ⟨by unfold gon; rw [if_neg (by omega), if_pos (by omega)], rfl⟩ | exact ⟨by unfold gon; rw [if_pos (by omega)], rfl⟩
  · refine z_iload_1 dX3_goesOn_4 (n := 5) rfl ?_
    refine z_aload_0 dX3_goesOn_5 (n := 6) rfl ?_
    refine z_get dX3_goesOn_6 (n := 9) rfl rfl fd_X3_24 rfl ?_
    refine z_icmp_ge dX3_goesOn_9 (n := 12) (tg := 21) rfl (by decide) (by first | assumption | exact ⟨by omega, by omega⟩ | exact zb_zr _) (by first | assumption | exact ⟨by omega, by omega⟩ | exact zb_zr _) (fun c9 => ?_) (fun c9 => ?_)
    · refine z_iconst dX3_goesOn_21 (n := 22) rfl ?_
      refine z_ret_i dX3_goesOn_22 rfl ?_
      first | exact ⟨(if_neg (by omega)).symm, rfl⟩ | exact ⟨by unfold gon; rw [if_neg (by omega), if_neg (by omega)], rfl⟩ | exact ⟨by unfold gon; rw [if_neg (by omega), if_pos (by omega)], rfl⟩ | exact ⟨by unfold gon; rw [if_pos (by omega)], rfl⟩
    · refine z_iload_2 dX3_goesOn_12 (n := 13) rfl ?_
      refine z_if_lt dX3_goesOn_13 (n := 16) (tg := 21) rfl (by decide) (by first | assumption | exact ⟨by omega, by omega⟩ | exact zb_zr _) (fun c13 => ?_) (fun c13 => ?_)
      · exfalso; omega
      · refine z_iload_2 dX3_goesOn_16 (n := 17) rfl ?_
        refine z_iconst dX3_goesOn_17 (n := 18) rfl ?_
        refine z_icmp_le dX3_goesOn_18 (n := 21) (tg := 23) rfl (by decide) (by first | assumption | exact ⟨by omega, by omega⟩ | exact zb_zr _) (by first | assumption | exact ⟨by omega, by omega⟩ | exact zb_zr _) (fun c18 => ?_) (fun c18 => ?_)
        · have hk := hM.2.2.1 s (by omega) (by omega)
          rw [if_pos (show 0 ≤ s ∧ s < sz 3 4 by omega)]
          refine z_aload_0 dX3_goesOn_23 (n := 24) rfl ?_
          refine z_get dX3_goesOn_24 (n := 27) rfl rfl fd_X3_9 rfl ?_
          refine z_iload_1 dX3_goesOn_27 (n := 28) rfl ?_
          refine z_iald dX3_goesOn_28 (n := 29) rfl rfl (by omega) (by omega) (by decide) ?_
          refine z_istore_3 dX3_goesOn_29 (n := 30) rfl (by decide) (fun w h => by cases h; try rfl) ?_
          refine z_iload_3 dX3_goesOn_30 (n := 31) rfl ?_
          refine z_iconst dX3_goesOn_31 (n := 32) rfl ?_
          refine z_icmp_eq dX3_goesOn_32 (n := 35) (tg := 40) rfl (by decide) (by first | assumption | exact ⟨by omega, by omega⟩ | exact zb_zr _) (by first | assumption | exact ⟨by omega, by omega⟩ | exact zb_zr _) (fun c32 => ?_) (fun c32 => ?_)
          · refine z_iconst dX3_goesOn_40 (n := 41) rfl ?_
            refine z_ret_i dX3_goesOn_41 rfl ?_
            first | exact ⟨(if_neg (by omega)).symm, rfl⟩ | exact ⟨by unfold gon; rw [if_neg (by omega), if_neg (by omega)], rfl⟩ | exact ⟨by unfold gon; rw [if_neg (by omega), if_pos (by omega)], rfl⟩ | exact ⟨by unfold gon; rw [if_pos (by omega)], rfl⟩
          · refine z_iload_3 dX3_goesOn_35 (n := 36) rfl ?_
            refine z_iconst dX3_goesOn_36 (n := 37) rfl ?_
            refine z_icmp_ne dX3_goesOn_37 (n := 40) (tg := 42) rfl (by decide) (by first | assumption | exact ⟨by omega, by omega⟩ | exact zb_zr _) (by first | assumption | exact ⟨by omega, by omega⟩ | exact zb_zr _) (fun c37 => ?_) (fun c37 => ?_)
            · refine z_aload_0 dX3_goesOn_42 (n := 43) rfl ?_
              refine z_get dX3_goesOn_43 (n := 46) rfl rfl fd_X3_15 rfl ?_
              refine z_iconst dX3_goesOn_46 (n := 47) rfl ?_
              refine z_iload_1 dX3_goesOn_47 (n := 48) rfl ?_
              refine z_imul dX3_goesOn_48 (n := 49) rfl ?_
              refine z_iload_3 dX3_goesOn_49 (n := 50) rfl ?_
              refine z_iconst dX3_goesOn_50 (n := 51) rfl ?_
              refine z_icmp_ne dX3_goesOn_51 (n := 54) (tg := 60) rfl (by decide) (by first | assumption | exact ⟨by omega, by omega⟩ | exact zb_zr _) (by first | assumption | exact ⟨by omega, by omega⟩ | exact zb_zr _) (fun c51 => ?_) (fun c51 => ?_)
              · refine z_iload_2 dX3_goesOn_60 (n := 61) rfl ?_
                refine z_iadd dX3_goesOn_61 (n := 62) rfl ?_
                refine z_iald dX3_goesOn_62 (n := 63) rfl rfl (by omega) (by omega) (by decide) ?_
                refine z_ret_i dX3_goesOn_63 rfl ?_
                first | exact ⟨(if_neg (by omega)).symm, rfl⟩ | exact ⟨by unfold gon; rw [if_neg (by omega), if_neg (by omega)], rfl⟩ | exact ⟨by unfold gon; rw [if_neg (by omega), if_pos (by omega)], rfl⟩ | exact ⟨by unfold gon; rw [if_pos (by omega)], rfl⟩
              · refine z_iconst dX3_goesOn_54 (n := 55) rfl ?_
                refine z_iload_2 dX3_goesOn_55 (n := 56) rfl ?_
                refine z_isub dX3_goesOn_56 (n := 57) rfl ?_
                refine z_goto dX3_goesOn_57 (n := 61) (by decide) ?_
                refine z_iadd dX3_goesOn_61 (n := 62) rfl ?_
                refine z_iald dX3_goesOn_62 (n := 63) rfl rfl (by omega) (by omega) (by decide) ?_
                refine z_ret_i dX3_goesOn_63 rfl ?_
                first | exact ⟨(if_neg (by omega)).symm, rfl⟩ | exact ⟨by unfold gon; rw [if_neg (by omega), if_neg (by omega)], rfl⟩ | exact ⟨by unfold gon; rw [if_neg (by omega), if_pos (by omega)], rfl⟩ | exact ⟨by unfold gon; rw [if_pos (by omega)], rfl⟩
            · refine z_iconst dX3_goesOn_40 (n := 41) rfl ?_
              refine z_ret_i dX3_goesOn_41 rfl ?_
              first | exact ⟨(if_neg (by omega)).symm, rfl⟩ | exact ⟨by unfold gon; rw [if_neg (by omega), if_neg (by omega)], rfl⟩ | exact ⟨by unfold gon; rw [if_neg (by omega), if_pos (by omega)], rfl⟩ | exact ⟨by unfold gon; rw [if_pos (by omega)], rfl⟩
        · exfalso; omega
-- second part
set_option maxHeartbeats 4000000 in
theorem c_X3_letterBehind {G : zG} {sz : zSz} {ar : zAr} {l b : Int} (h0 : 0 ≤ l) (h1 : l < 2 * sz 3 4) (hb0 : 0 ≤ b) (hb1 : b ≤ 1) (hM : MOK (sz 3 4) (ar 4) (ar 5))  : zSem G mX3_letterBehind 1 [zR 3, zI l, zI b] (X sz ar) (zpi fun r u => r = lb (ar 4) (ar 5) l b ∧ u = X sz ar) := by
  refine z_enter (L' := [some (zR 3), some (zI l), some (zI b), none, none, none, none]) (by decide +kernel) (Nat.le_of_ble_eq_true rfl) ⟨4, rfl⟩ ?_
  have hn := hM.1
  have hn6 := hM.2.1
  refine z_iload_1 dX3_letterBehind_0 (n := 1) rfl ?_
  refine z_callN1i dX3_letterBehind_1 (n := 4) rfl ms_X6_stateOf lk_X3_92 (zrm (by decide) (by decide)) (Nat.le_of_ble_eq_true rfl) (c_X6_stateOf (by first | assumption | exact ⟨by omega, by omega⟩ | exact zb_zr _)) (fun r u hp => ?_)
  obtain ⟨rfl, rfl⟩ := hp
  refine z_istore_3 dX3_letterBehind_4 (n := 5) rfl (by decide) (fun w h => by cases h; try rfl) ?_
  refine z_iload_1 dX3_letterBehind_5 (n := 6) rfl ?_
  refine z_callN1i dX3_letterBehind_6 (n := 9) rfl ms_X6_isInverse lk_X3_95 (zrm (by decide) (by decide)) (Nat.le_of_ble_eq_true rfl) (c_X6_isInverse (by omega)) (fun r u hp => ?_)
  obtain ⟨rfl, rfl⟩ := hp
  refine z_istore_4 dX3_letterBehind_9 (n := 11) rfl (by decide) (fun w h => by cases h; try rfl) ?_
  refine z_iload_4 dX3_letterBehind_11 (n := 13) rfl ?_
  refine z_ifB_eq dX3_letterBehind_13 (n := 16) (tg := 30) rfl (by decide) (fun c13 => ?_) (fun c13 => ?_)
  · have hw : b = if l % 2 = 1 ∧ fl (ar 4) (l / 2) then 1 - b else b := (if_neg (fun z => c13 z.1)).symm
    refine z_iload_2 dX3_letterBehind_30 (n := 31) rfl ?_
    refine z_istore_5 dX3_letterBehind_31 (n := 33) rfl (by decide) (fun w h => by cases h; try rfl) ?_
    refine z_aload_0 dX3_letterBehind_33 (n := 34) rfl ?_
    refine z_iload_3 dX3_letterBehind_34 (n := 35) rfl ?_
    refine z_iload_5 dX3_letterBehind_35 (n := 37) rfl ?_
    refine z_callV2i dX3_letterBehind_37 (n := 40) rfl mv_X3_goesOn lk_X3_71 rfl (zrm (by decide) (by decide)) (Nat.le_of_ble_eq_true rfl) (c_X3_goesOn (by first | assumption | exact ⟨by omega, by omega⟩ | exact zb_zr _) (by omega) hM) (fun r u hp => ?_)
    obtain ⟨rfl, rfl⟩ := hp
    rw [if_pos (by omega)]
    have hg0 := hM.go (s := l / 2) (w := b) (by omega) (by omega) (by omega) (by omega)
    have hg1 := hM.go (s := l / 2) (w := 1 - b) (by omega) (by omega) (by omega) (by omega)
    refine z_istore_6 dX3_letterBehind_40 (n := 42) rfl (by decide) (fun w h => by cases h; try rfl) ?_
    refine z_iload_6 dX3_letterBehind_42 (n := 44) rfl ?_
    refine z_iconst dX3_letterBehind_44 (n := 45) rfl ?_
    refine z_icmp_ne dX3_letterBehind_45 (n := 48) (tg := 52) rfl (by decide) (by first | assumption | exact ⟨by omega, by omega⟩ | exact zb_zr _) (by first | assumption | exact ⟨by omega, by omega⟩ | exact zb_zr _) (fun c45 => ?_) (fun c45 => ?_)
    · refine z_iload_6 dX3_letterBehind_52 (n := 54) rfl ?_
      refine z_iload_4 dX3_letterBehind_54 (n := 56) rfl ?_
      refine z_callN2i dX3_letterBehind_56 (n := 59) rfl ms_X6_letterOf lk_X3_98 (zrm (by decide) (by decide)) (Nat.le_of_ble_eq_true rfl) (c_X6_letterOf) (fun r u hp => ?_)
      obtain ⟨rfl, rfl⟩ := hp
      refine z_ret_i dX3_letterBehind_59 rfl ?_
      first | exact ⟨by rw [lb_w hw, if_pos c45], rfl⟩ | exact ⟨by rw [lb_w hw, if_neg c45, zb_mod], rfl⟩
    · refine z_iconst dX3_letterBehind_48 (n := 49) rfl ?_
      refine z_goto dX3_letterBehind_49 (n := 59) (by decide) ?_
      refine z_ret_i dX3_letterBehind_59 rfl ?_
      first | exact ⟨by rw [lb_w hw, if_pos c45], rfl⟩ | exact ⟨by rw [lb_w hw, if_neg c45, zb_mod], rfl⟩
  · refine z_aload_0 dX3_letterBehind_16 (n := 17) rfl ?_
    refine z_iload_3 dX3_letterBehind_17 (n := 18) rfl ?_
    refine z_callV1i dX3_letterBehind_18 (n := 21) rfl mv_X3_flipsFirst lk_X3_86 rfl (zrm (by decide) (by decide)) (Nat.le_of_ble_eq_true rfl) (c_X3_flipsFirst (by first | assumption | exact ⟨by omega, by omega⟩ | exact zb_zr _) hM) (fun r u hp => ?_)
    obtain ⟨rfl, rfl⟩ := hp
    refine z_ifB_eq dX3_letterBehind_21 (n := 24) (tg := 30) rfl (by decide) (fun c21 => ?_) (fun c21 => ?_)
    · have hw : b = if l % 2 = 1 ∧ fl (ar 4) (l / 2) then 1 - b else b := (if_neg (fun z => c21 ⟨by omega, by omega, z.2⟩)).symm
      refine z_iload_2 dX3_letterBehind_30 (n := 31) rfl ?_
      refine z_istore_5 dX3_letterBehind_31 (n := 33) rfl (by decide) (fun w h => by cases h; try rfl) ?_
      refine z_aload_0 dX3_letterBehind_33 (n := 34) rfl ?_
      refine z_iload_3 dX3_letterBehind_34 (n := 35) rfl ?_
      refine z_iload_5 dX3_letterBehind_35 (n := 37) rfl ?_
      refine z_callV2i dX3_letterBehind_37 (n := 40) rfl mv_X3_goesOn lk_X3_71 rfl (zrm (by decide) (by decide)) (Nat.le_of_ble_eq_true rfl) (c_X3_goesOn (by first | assumption | exact ⟨by omega, by omega⟩ | exact zb_zr _) (by omega) hM) (fun r u hp => ?_)
      obtain ⟨rfl, rfl⟩ := hp
      rw [if_pos (by omega)]
      have hg0 := hM.go (s := l / 2) (w := b) (by omega) (by omega) (by omega) (by omega)
      have hg1 := hM.go (s := l / 2) (w := 1 - b) (by omega) (by omega) (by omega) (by omega)
      refine z_istore_6 dX3_letterBehind_40 (n := 42) rfl (by decide) (fun w h => by cases h; try rfl) ?_
      refine z_iload_6 dX3_letterBehind_42 (n := 44) rfl ?_
      refine z_iconst dX3_letterBehind_44 (n := 45) rfl ?_
      refine z_icmp_ne dX3_letterBehind_45 (n := 48) (tg := 52) rfl (by decide) (by first | assumption | exact ⟨by omega, by omega⟩ | exact zb_zr _) (by first | assumption | exact ⟨by omega, by omega⟩ | exact zb_zr _) (fun c45 => ?_) (fun c45 => ?_)
      · refine z_iload_6 dX3_letterBehind_52 (n := 54) rfl ?_
        refine z_iload_4 dX3_letterBehind_54 (n := 56) rfl ?_
        refine z_callN2i dX3_letterBehind_56 (n := 59) rfl ms_X6_letterOf lk_X3_98 (zrm (by decide) (by decide)) (Nat.le_of_ble_eq_true rfl) (c_X6_letterOf) (fun r u hp => ?_)
        obtain ⟨rfl, rfl⟩ := hp
        refine z_ret_i dX3_letterBehind_59 rfl ?_
        first | exact ⟨by rw [lb_w hw, if_pos c45], rfl⟩ | exact ⟨by rw [lb_w hw, if_neg c45, zb_mod], rfl⟩
      · refine z_iconst dX3_letterBehind_48 (n := 49) rfl ?_
        refine z_goto dX3_letterBehind_49 (n := 59) (by decide) ?_
        refine z_ret_i dX3_letterBehind_59 rfl ?_
        first | exact ⟨by rw [lb_w hw, if_pos c45], rfl⟩ | exact ⟨by rw [lb_w hw, if_neg c45, zb_mod], rfl⟩
    · have hw : 1 - b = if l % 2 = 1 ∧ fl (ar 4) (l / 2) then 1 - b else b := (if_pos ⟨c13, c21.2.2⟩).symm
      refine z_iconst dX3_letterBehind_24 (n := 25) rfl ?_
      refine z_iload_2 dX3_letterBehind_25 (n := 26) rfl ?_
      refine z_isub dX3_letterBehind_26 (n := 27) rfl ?_
      refine z_goto dX3_letterBehind_27 (n := 31) (by decide) ?_
      refine z_istore_5 dX3_letterBehind_31 (n := 33) rfl (by decide) (fun w h => by cases h; try rfl) ?_
      refine z_aload_0 dX3_letterBehind_33 (n := 34) rfl ?_
      refine z_iload_3 dX3_letterBehind_34 (n := 35) rfl ?_
      refine z_iload_5 dX3_letterBehind_35 (n := 37) rfl ?_
      refine z_callV2i dX3_letterBehind_37 (n := 40) rfl mv_X3_goesOn lk_X3_71 rfl (zrm (by decide) (by decide)) (Nat.le_of_ble_eq_true rfl) (c_X3_goesOn (by first | assumption | exact ⟨by omega, by omega⟩ | exact zb_zr _) (by omega) hM) (fun r u hp => ?_)
      obtain ⟨rfl, rfl⟩ := hp
      rw [if_pos (by omega)]
      have hg0 := hM.go (s := l / 2) (w := b) (by omega) (by omega) (by omega) (by omega)
      have hg1 := hM.go (s := l / 2) (w := 1 - b) (by omega) (by omega) (by omega) (by omega)
      refine z_istore_6 dX3_letterBehind_40 (n := 42) rfl (by decide) (fun w h => by cases h; try rfl) ?_
      refine z_iload_6 dX3_letterBehind_42 (n := 44) rfl ?_
      refine z_iconst dX3_letterBehind_44 (n := 45) rfl ?_
      refine z_icmp_ne dX3_letterBehind_45 (n := 48) (tg := 52) rfl (by decide) (by first | assumption | exact ⟨by omega, by omega⟩ | exact zb_zr _) (by first | assumption | exact ⟨by omega, by omega⟩ | exact zb_zr _) (fun c45 => ?_) (fun c45 => ?_)
      · refine z_iload_6 dX3_letterBehind_52 (n := 54) rfl ?_
        refine z_iload_4 dX3_letterBehind_54 (n := 56) rfl ?_
        refine z_callN2i dX3_letterBehind_56 (n := 59) rfl ms_X6_letterOf lk_X3_98 (zrm (by decide) (by decide)) (Nat.le_of_ble_eq_true rfl) (c_X6_letterOf) (fun r u hp => ?_)
        obtain ⟨rfl, rfl⟩ := hp
        refine z_ret_i dX3_letterBehind_59 rfl ?_
        first | exact ⟨by rw [lb_w hw, if_pos c45], rfl⟩ | exact ⟨by rw [lb_w hw, if_neg c45, zb_mod], rfl⟩
      · refine z_iconst dX3_letterBehind_48 (n := 49) rfl ?_
        refine z_goto dX3_letterBehind_49 (n := 59) (by decide) ?_
        refine z_ret_i dX3_letterBehind_59 rfl ?_
        first | exact ⟨by rw [lb_w hw, if_pos c45], rfl⟩ | exact ⟨by rw [lb_w hw, if_neg c45, zb_mod], rfl⟩
set_option maxHeartbeats 4000000 in
theorem lo_X3_rowAfterLetter {G : zG} {sz : zSz} {ar : zAr} {l0 r0 n0 : Int} (hM : MOK (sz 3 4) (ar 4) (ar 5)) :
    ∀ (k : Nat) (hi x l : Int) (y : Option zV), k ≤ 12 → 0 ≤ hi → (hi + 1) * 2 ^ k ≤ 4096 → 0 ≤ x → x < 2 ^ k → -1 ≤ l → l < 2 * sz 3 4 →
    zWP G mX3_rowAfterLetter 2 (zpi fun r u => r = hi * 2 ^ k + rl (ar 4) (ar 5) k l x ∧ u = X sz ar) 11 [some (zR 3), some (zI l0), some (zI r0), some (zI n0), some (zI (hi * 2 ^ k + x)), some (zI l), some (zI (k - 1)), y] [] (X sz ar) := by
  have hn := hM.1
  have hn6 := hM.2.1
  intro k
  induction k with
  | zero =>
    intro hi x l y hk h0 h1 hx0 hx1 hl0 hl1
    refine z_iload_6 dX3_rowAfterLetter_11 (n := 13) rfl ?_
    refine z_if_lt dX3_rowAfterLetter_13 (n := 16) (tg := 72) rfl (by decide) (by first | assumption | exact ⟨by omega, by omega⟩ | exact zb_zr _) (fun c13 => ?_) (fun c13 => ?_)
    · refine z_iload_4 dX3_rowAfterLetter_72 (n := 74) rfl ?_
      refine z_ret_i dX3_rowAfterLetter_74 rfl ?_
      exact ⟨rfl, rfl⟩
    · exfalso; omega
  | succ k ih =>
    intro hi x l y hk h0 h1 hx0 hx1 hl0 hl1
    have hp := p2_pos k
    have hp1 := p2_pos (k + 1)
    have hs := sg_bit (hi := hi) hx0 hx1 h0
    have hfl := sg_flip (hi := hi) hx0 hx1 h0
    have hst := sg_stay (hi := hi) (x := x) (k := k)
    have hb := half_r hx0 hx1
    have hmm := Int.emod_lt_of_pos x hp
    have hmn := Int.emod_nonneg x (show (2 : Int) ^ k ≠ 0 by omega)
    have hnn : 0 ≤ hi * 2 ^ (k + 1) := Int.mul_nonneg h0 (by omega)
    have hup := hi_lt h1 hx1
    have hN0 : 0 ≤ hi * 2 ^ (k + 1) + x := by omega
    have hzn : zr (hi * 2 ^ (k + 1) + x) := ⟨by omega, by omega⟩
    have hdn : 0 ≤ (hi * 2 ^ (k + 1) + x) / 2 ^ k := Int.ediv_nonneg hN0 (by omega)
    have hpz : 0 ≤ 1 * (2 : Int) ^ k := by omega
    have e1 : ((k + 1 : Nat) : Int) - 1 = k := by omega
    rw [e1]
    have ek : ((k : Int)).toNat = k := rfl
    refine z_iload_6 dX3_rowAfterLetter_11 (n := 13) rfl ?_
    refine z_if_lt dX3_rowAfterLetter_13 (n := 16) (tg := 72) rfl (by decide) (by first | assumption | exact ⟨by omega, by omega⟩ | exact zb_zr _) (fun c13 => ?_) (fun c13 => ?_)
    · exfalso; omega
    · refine z_iload_5 dX3_rowAfterLetter_16 (n := 18) rfl ?_
      refine z_iconst dX3_rowAfterLetter_18 (n := 19) rfl ?_
      refine z_icmp_eq dX3_rowAfterLetter_19 (n := 22) (tg := 72) rfl (by decide) (by first | assumption | exact ⟨by omega, by omega⟩ | exact zb_zr _) (by first | assumption | exact ⟨by omega, by omega⟩ | exact zb_zr _) (fun c19 => ?_) (fun c19 => ?_)
      · refine z_iload_4 dX3_rowAfterLetter_72 (n := 74) rfl ?_
        refine z_ret_i dX3_rowAfterLetter_74 rfl ?_
        exact ⟨by rw [c19, rl_none], rfl⟩
      · rw [rl_step (hi := hi) c19]
        refine z_iload_4 dX3_rowAfterLetter_22 (n := 24) rfl ?_
        refine z_iload_6 dX3_rowAfterLetter_24 (n := 26) rfl ?_
        refine z_ishr dX3_rowAfterLetter_26 (n := 27) rfl (by first | assumption | exact ⟨by omega, by omega⟩ | exact zb_zr _) (by first | assumption | omega) (by first | assumption | omega) ?_
        refine z_iconst dX3_rowAfterLetter_27 (n := 28) rfl ?_
        rw [ek]
        refine z_iand1 dX3_rowAfterLetter_28 (n := 29) rfl (by first | assumption | omega) ?_
        rw [hs]
        refine z_istore_7 dX3_rowAfterLetter_29 (n := 31) rfl (by decide) (fun w h => by cases h; try rfl) ?_
        refine z_iload_4 dX3_rowAfterLetter_31 (n := 33) rfl ?_
        refine z_aload_0 dX3_rowAfterLetter_33 (n := 34) rfl ?_
        refine z_iload_5 dX3_rowAfterLetter_34 (n := 36) rfl ?_
        refine z_callN1i dX3_rowAfterLetter_36 (n := 39) rfl ms_X6_stateOf lk_X3_92 (zrm (by decide) (by decide)) (Nat.le_of_ble_eq_true rfl) (c_X6_stateOf (by first | assumption | exact ⟨by omega, by omega⟩ | exact zb_zr _)) (fun r u hp => ?_)
        obtain ⟨rfl, rfl⟩ := hp
        refine z_callV1i dX3_rowAfterLetter_39 (n := 42) rfl mv_X3_flipsFirst lk_X3_86 rfl (zrm (by decide) (by decide)) (Nat.le_of_ble_eq_true rfl) (c_X3_flipsFirst (by first | assumption | exact ⟨by omega, by omega⟩ | exact zb_zr _) hM) (fun r u hp => ?_)
        obtain ⟨rfl, rfl⟩ := hp
        refine z_ifB_eq dX3_rowAfterLetter_42 (n := 45) (tg := 52) rfl (by decide) (fun c42 => ?_) (fun c42 => ?_)
        · have hfb : fb (ar 4) (l / 2) (x / 2 ^ k) = x / 2 ^ k := if_neg (fun z => c42 ⟨by omega, by omega, z⟩)
          have hno : zxor (hi * 2 ^ (k + 1) + x) 0 = (hi * 2 + fb (ar 4) (l / 2) (x / 2 ^ k)) * 2 ^ k + x % 2 ^ k := by rw [zxor_zero hN0, hfb]; exact hst
          refine z_iconst dX3_rowAfterLetter_52 (n := 53) rfl ?_
          try rw [ek]
          refine z_ixor dX3_rowAfterLetter_53 (n := 54) rfl (by first | assumption | omega) (by first | assumption | omega) ?_
          rw [hno]
          refine z_istore_4 dX3_rowAfterLetter_54 (n := 56) rfl (by decide) (fun w h => by cases h; try rfl) ?_
          refine z_aload_0 dX3_rowAfterLetter_56 (n := 57) rfl ?_
          refine z_iload_5 dX3_rowAfterLetter_57 (n := 59) rfl ?_
          refine z_iload_7 dX3_rowAfterLetter_59 (n := 61) rfl ?_
          refine z_callV2i dX3_rowAfterLetter_61 (n := 64) rfl mv_X3_letterBehind lk_X3_112 rfl (zrm (by decide) (by decide)) (Nat.le_of_ble_eq_true rfl) (c_X3_letterBehind (by first | assumption | omega) (by first | assumption | omega) (by first | assumption | omega) (by first | assumption | omega) hM) (fun r u hp => ?_)
          obtain ⟨rfl, rfl⟩ := hp
          refine z_istore_5 dX3_rowAfterLetter_64 (n := 66) rfl (by decide) (fun w h => by cases h; try rfl) ?_
          refine z_iinc_6 dX3_rowAfterLetter_66 (n := 69) rfl (by decide) (fun w h => by cases h; try rfl) ?_
          refine z_goto dX3_rowAfterLetter_69 (n := 11) (by decide) ?_
          have hff := fb_r (kd := ar 4) (s := l / 2) hb.1 hb.2
          have hlb := lb_r hM (l := l) (b := x / 2 ^ k) (by omega) (by omega) hb.1 hb.2
          exact ih _ _ _ _ (by omega) (by omega) (hi_le h1 hff.2) hmn hmm hlb.1 hlb.2
        · have hfb : fb (ar 4) (l / 2) (x / 2 ^ k) = 1 - x / 2 ^ k := if_pos c42.2.2
          have hno : zxor (hi * 2 ^ (k + 1) + x) (1 * 2 ^ k) = (hi * 2 + fb (ar 4) (l / 2) (x / 2 ^ k)) * 2 ^ k + x % 2 ^ k := by rw [Int.one_mul, hfl, hfb]
          refine z_iconst dX3_rowAfterLetter_45 (n := 46) rfl ?_
          refine z_iload_6 dX3_rowAfterLetter_46 (n := 48) rfl ?_
          refine z_ishl dX3_rowAfterLetter_48 (n := 49) rfl (by first | assumption | omega) (by first | assumption | omega) ?_
          refine z_goto dX3_rowAfterLetter_49 (n := 53) (by decide) ?_
          try rw [ek]
          refine z_ixor dX3_rowAfterLetter_53 (n := 54) rfl (by first | assumption | omega) (by first | assumption | omega) ?_
          rw [hno]
          refine z_istore_4 dX3_rowAfterLetter_54 (n := 56) rfl (by decide) (fun w h => by cases h; try rfl) ?_
          refine z_aload_0 dX3_rowAfterLetter_56 (n := 57) rfl ?_
          refine z_iload_5 dX3_rowAfterLetter_57 (n := 59) rfl ?_
          refine z_iload_7 dX3_rowAfterLetter_59 (n := 61) rfl ?_
          refine z_callV2i dX3_rowAfterLetter_61 (n := 64) rfl mv_X3_letterBehind lk_X3_112 rfl (zrm (by decide) (by decide)) (Nat.le_of_ble_eq_true rfl) (c_X3_letterBehind (by first | assumption | omega) (by first | assumption | omega) (by first | assumption | omega) (by first | assumption | omega) hM) (fun r u hp => ?_)
          obtain ⟨rfl, rfl⟩ := hp
          refine z_istore_5 dX3_rowAfterLetter_64 (n := 66) rfl (by decide) (fun w h => by cases h; try rfl) ?_
          refine z_iinc_6 dX3_rowAfterLetter_66 (n := 69) rfl (by decide) (fun w h => by cases h; try rfl) ?_
          refine z_goto dX3_rowAfterLetter_69 (n := 11) (by decide) ?_
          have hff := fb_r (kd := ar 4) (s := l / 2) hb.1 hb.2
          have hlb := lb_r hM (l := l) (b := x / 2 ^ k) (by omega) (by omega) hb.1 hb.2
          exact ih _ _ _ _ (by omega) (by omega) (hi_le h1 hff.2) hmn hmm hlb.1 hlb.2
set_option maxHeartbeats 4000000 in
theorem c_X3_rowAfterLetter {G : zG} {sz : zSz} {ar : zAr} {l x n : Int} (hM : MOK (sz 3 4) (ar 4) (ar 5)) (h0 : 0 ≤ l) (h1 : l < 2 * sz 3 4) (hn0 : 0 ≤ n) (hn1 : n ≤ 12) (hx0 : 0 ≤ x) (hx1 : x < 2 ^ n.toNat)  : zSem G mX3_rowAfterLetter 2 [zR 3, zI l, zI x, zI n] (X sz ar) (zpi fun r u => r = rl (ar 4) (ar 5) n.toNat l x ∧ u = X sz ar) := by
  refine z_enter (L' := [some (zR 3), some (zI l), some (zI x), some (zI n), none, none, none, none]) (by decide +kernel) (Nat.le_of_ble_eq_true rfl) ⟨4, rfl⟩ ?_
  have hpp : ∀ k, k ≤ 12 → ((0 : Int) + 1) * 2 ^ k ≤ 4096 := by decide
  have h9 := lo_X3_rowAfterLetter (G := G) (sz := sz) (ar := ar) (l0 := l) (r0 := x) (n0 := n) hM n.toNat 0 x l none (by omega) (by omega) (hpp _ (by omega)) hx0 hx1 (by omega) h1
  rw [Int.zero_mul, Int.zero_add, Int.zero_add, Int.toNat_of_nonneg hn0] at h9
  refine z_iload_2 dX3_rowAfterLetter_0 (n := 1) rfl ?_
  refine z_istore_4 dX3_rowAfterLetter_1 (n := 3) rfl (by decide) (fun w h => by cases h; try rfl) ?_
  refine z_iload_1 dX3_rowAfterLetter_3 (n := 4) rfl ?_
  refine z_istore_5 dX3_rowAfterLetter_4 (n := 6) rfl (by decide) (fun w h => by cases h; try rfl) ?_
  refine z_iload_3 dX3_rowAfterLetter_6 (n := 7) rfl ?_
  refine z_iconst dX3_rowAfterLetter_7 (n := 8) rfl ?_
  refine z_isub dX3_rowAfterLetter_8 (n := 9) rfl ?_
  refine z_istore_6 dX3_rowAfterLetter_9 (n := 11) rfl (by decide) (fun w h => by cases h; try rfl) ?_
  exact h9
set_option maxHeartbeats 4000000 in
theorem lo_X3_rowAfterWord {G : zG} {sz : zSz} {ar : zAr} {k : Nat} {ys : List Int} {n r0 : Int} (hk : isL k) (hM : MOK (sz 3 4) (ar 4) (ar 5)) (hY : LR (sz k 1) (ar (k + 1)) ys) (hy : Lt (sz 3 4) ys) (hyc : ys.length ≤ cap k) (hn0 : 0 ≤ n) (hn1 : n ≤ 12) :
    ∀ (rest pre : List Int) (x : Int), ys = pre ++ rest → 0 ≤ x → x < 2 ^ n.toNat →
    zWP G mX3_rowAfterWord 3 (zpi fun r u => r = rwd (ar 4) (ar 5) n.toNat rest x ∧ u = X sz ar) 6 [some (zR 3), some (zR k), some (zI r0), some (zI n), some (zI x), some (zI pre.length)] [] (X sz ar) := by
  have hc := cap_r k
  have hn := hM.1
  have hn6 := hM.2.1
  have hl := hY.1
  intro rest
  induction rest with
  | nil =>
    intro pre x e hx0 hx1
    have el : ys.length = pre.length := by rw [e]; simp
    refine z_iload_5 dX3_rowAfterWord_6 (n := 8) rfl ?_
    refine z_aload_1 dX3_rowAfterWord_8 (n := 9) rfl ?_
    refine z_callV0i dX3_rowAfterWord_9 (n := 12) rfl mv_X1_size lk_X3_102 (XL1 hk) (zrm (by decide) (by decide)) (Nat.le_of_ble_eq_true rfl) (c_X1_size hk) (fun r u hp => ?_)
    obtain ⟨rfl, rfl⟩ := hp
    refine z_icmp_ge dX3_rowAfterWord_12 (n := 15) (tg := 36) rfl (by decide) (by first | assumption | exact ⟨by omega, by omega⟩ | exact zb_zr _) (by first | assumption | exact ⟨by omega, by omega⟩ | exact zb_zr _) (fun c12 => ?_) (fun c12 => ?_)
    · refine z_iload_4 dX3_rowAfterWord_36 (n := 38) rfl ?_
      refine z_ret_i dX3_rowAfterWord_38 rfl ?_
      exact ⟨rfl, rfl⟩
    · exfalso; omega
  | cons a t ih =>
    intro pre x e hx0 hx1
    have el : ys.length = pre.length + (t.length + 1) := by rw [e]; simp
    have ha := hy a (by rw [e]; simp)
    have hm : ar (k + 1) pre.length = a := LR.mid (t := t) (n := sz k 1) (by rw [← e]; exact hY)
    have hr := rl_r (ar 4) (ar 5) n.toNat a x hx0 hx1
    refine z_iload_5 dX3_rowAfterWord_6 (n := 8) rfl ?_
    refine z_aload_1 dX3_rowAfterWord_8 (n := 9) rfl ?_
    refine z_callV0i dX3_rowAfterWord_9 (n := 12) rfl mv_X1_size lk_X3_102 (XL1 hk) (zrm (by decide) (by decide)) (Nat.le_of_ble_eq_true rfl) (c_X1_size hk) (fun r u hp => ?_)
    obtain ⟨rfl, rfl⟩ := hp
    refine z_icmp_ge dX3_rowAfterWord_12 (n := 15) (tg := 36) rfl (by decide) (by first | assumption | exact ⟨by omega, by omega⟩ | exact zb_zr _) (by first | assumption | exact ⟨by omega, by omega⟩ | exact zb_zr _) (fun c12 => ?_) (fun c12 => ?_)
    · exfalso; omega
    · refine z_aload_0 dX3_rowAfterWord_15 (n := 16) rfl ?_
      refine z_aload_1 dX3_rowAfterWord_16 (n := 17) rfl ?_
      refine z_iload_5 dX3_rowAfterWord_17 (n := 19) rfl ?_
      refine z_callV1i dX3_rowAfterWord_19 (n := 22) rfl mv_X1_at lk_X3_106 (XL1 hk) (zrm (by decide) (by decide)) (Nat.le_of_ble_eq_true rfl) (c_X1_at hk (by first | assumption | exact ⟨by omega, by omega⟩ | exact zb_zr _) (by omega) (by omega)) (fun r u hp => ?_)
      obtain ⟨rfl, rfl⟩ := hp
      rw [if_pos (by omega), hm]
      refine z_iload_4 dX3_rowAfterWord_22 (n := 24) rfl ?_
      refine z_iload_3 dX3_rowAfterWord_24 (n := 25) rfl ?_
      refine z_callV3i dX3_rowAfterWord_25 (n := 28) rfl mv_X3_rowAfterLetter lk_X3_119 rfl (zrm (by decide) (by decide)) (Nat.le_of_ble_eq_true rfl) (c_X3_rowAfterLetter hM (by omega) (by omega) (by omega) (by omega) (by omega) (by omega)) (fun r u hp => ?_)
      obtain ⟨rfl, rfl⟩ := hp
      refine z_istore_4 dX3_rowAfterWord_28 (n := 30) rfl (by decide) (fun w h => by cases h; try rfl) ?_
      refine z_iinc_5 dX3_rowAfterWord_30 (n := 33) rfl (by decide) (fun w h => by cases h; try rfl) ?_
      refine z_goto dX3_rowAfterWord_33 (n := 6) (by decide) ?_
      have h9 := ih (pre ++ [a]) (rl (ar 4) (ar 5) n.toNat a x) (by rw [e]; simp) hr.1 hr.2
      rw [show ((pre ++ [a]).length : Int) = (pre.length : Int) + 1 by simp] at h9
      exact h9
set_option maxHeartbeats 4000000 in
theorem c_X3_rowAfterWord {G : zG} {sz : zSz} {ar : zAr} {k : Nat} {ys : List Int} {n x : Int} (hk : isL k) (hM : MOK (sz 3 4) (ar 4) (ar 5)) (hY : LR (sz k 1) (ar (k + 1)) ys) (hy : Lt (sz 3 4) ys) (hyc : ys.length ≤ cap k) (hn0 : 0 ≤ n) (hn1 : n ≤ 12) (hx0 : 0 ≤ x) (hx1 : x < 2 ^ n.toNat)  : zSem G mX3_rowAfterWord 3 [zR 3, zR k, zI x, zI n] (X sz ar) (zpi fun r u => r = rwd (ar 4) (ar 5) n.toNat ys x ∧ u = X sz ar) := by
  refine z_enter (L' := [some (zR 3), some (zR k), some (zI x), some (zI n), none, none]) (by decide +kernel) (Nat.le_of_ble_eq_true rfl) ⟨2, rfl⟩ ?_
  refine z_iload_2 dX3_rowAfterWord_0 (n := 1) rfl ?_
  refine z_istore_4 dX3_rowAfterWord_1 (n := 3) rfl (by decide) (fun w h => by cases h; try rfl) ?_
  refine z_iconst dX3_rowAfterWord_3 (n := 4) rfl ?_
  refine z_istore_5 dX3_rowAfterWord_4 (n := 6) rfl (by decide) (fun w h => by cases h; try rfl) ?_
  exact lo_X3_rowAfterWord hk hM hY hy hyc hn0 hn1 ys [] x rfl hx0 hx1
set_option maxHeartbeats 4000000 in
theorem lo_X3_flipsFirstSign {G : zG} {sz : zSz} {ar : zAr} {k : Nat} {ys : List Int} (hk : isL k) (hM : MOK (sz 3 4) (ar 4) (ar 5)) (hY : LR (sz k 1) (ar (k + 1)) ys) (hy : Lt (sz 3 4) ys) (hyc : ys.length ≤ cap k) :
    ∀ (rest pre : List Int) (b : Int), ys = pre ++ rest → 0 ≤ b → b ≤ 1 →
    zWP G mX3_flipsFirstSign 1 (zpi fun r u => r = fps (ar 4) rest b ∧ u = X sz ar) 4 [some (zR 3), some (zR k), some (zI b), some (zI pre.length)] [] (X sz ar) := by
  have hc := cap_r k
  have hn := hM.1
  have hn6 := hM.2.1
  have hl := hY.1
  intro rest
  induction rest with
  | nil =>
    intro pre b e h0 h1
    have el : ys.length = pre.length := by rw [e]; simp
    refine z_iload_3 dX3_flipsFirstSign_4 (n := 5) rfl ?_
    refine z_aload_1 dX3_flipsFirstSign_5 (n := 6) rfl ?_
    refine z_callV0i dX3_flipsFirstSign_6 (n := 9) rfl mv_X1_size lk_X3_102 (XL1 hk) (zrm (by decide) (by decide)) (Nat.le_of_ble_eq_true rfl) (c_X1_size hk) (fun r u hp => ?_)
    obtain ⟨rfl, rfl⟩ := hp
    refine z_icmp_ge dX3_flipsFirstSign_9 (n := 12) (tg := 43) rfl (by decide) (by first | assumption | exact ⟨by omega, by omega⟩ | exact zb_zr _) (by first | assumption | exact ⟨by omega, by omega⟩ | exact zb_zr _) (fun c9 => ?_) (fun c9 => ?_)
    · refine z_iload_2 dX3_flipsFirstSign_43 (n := 44) rfl ?_
      refine z_ret_z dX3_flipsFirstSign_44 rfl (by omega) ?_
      exact ⟨rfl, rfl⟩
    · exfalso; omega
  | cons a t ih =>
    intro pre b e h0 h1
    have el : ys.length = pre.length + (t.length + 1) := by rw [e]; simp
    have ha := hy a (by rw [e]; simp)
    have hm : ar (k + 1) pre.length = a := LR.mid (t := t) (n := sz k 1) (by rw [← e]; exact hY)
    have hr := fb_r (kd := ar 4) (s := a / 2) h0 h1
    have h9 := ih (pre ++ [a]) (fb (ar 4) (a / 2) b) (by rw [e]; simp) hr.1 hr.2
    rw [show ((pre ++ [a]).length : Int) = (pre.length : Int) + 1 by simp] at h9
    refine z_iload_3 dX3_flipsFirstSign_4 (n := 5) rfl ?_
    refine z_aload_1 dX3_flipsFirstSign_5 (n := 6) rfl ?_
    refine z_callV0i dX3_flipsFirstSign_6 (n := 9) rfl mv_X1_size lk_X3_102 (XL1 hk) (zrm (by decide) (by decide)) (Nat.le_of_ble_eq_true rfl) (c_X1_size hk) (fun r u hp => ?_)
    obtain ⟨rfl, rfl⟩ := hp
    refine z_icmp_ge dX3_flipsFirstSign_9 (n := 12) (tg := 43) rfl (by decide) (by first | assumption | exact ⟨by omega, by omega⟩ | exact zb_zr _) (by first | assumption | exact ⟨by omega, by omega⟩ | exact zb_zr _) (fun c9 => ?_) (fun c9 => ?_)
    · exfalso; omega
    · refine z_aload_0 dX3_flipsFirstSign_12 (n := 13) rfl ?_
      refine z_aload_1 dX3_flipsFirstSign_13 (n := 14) rfl ?_
      refine z_iload_3 dX3_flipsFirstSign_14 (n := 15) rfl ?_
      refine z_callV1i dX3_flipsFirstSign_15 (n := 18) rfl mv_X1_at lk_X3_106 (XL1 hk) (zrm (by decide) (by decide)) (Nat.le_of_ble_eq_true rfl) (c_X1_at hk (by first | assumption | exact ⟨by omega, by omega⟩ | exact zb_zr _) (by omega) (by omega)) (fun r u hp => ?_)
      obtain ⟨rfl, rfl⟩ := hp
      rw [if_pos (by omega), hm]
      refine z_callN1i dX3_flipsFirstSign_18 (n := 21) rfl ms_X6_stateOf lk_X3_92 (zrm (by decide) (by decide)) (Nat.le_of_ble_eq_true rfl) (c_X6_stateOf (by first | assumption | exact ⟨by omega, by omega⟩ | exact zb_zr _)) (fun r u hp => ?_)
      obtain ⟨rfl, rfl⟩ := hp
      refine z_callV1i dX3_flipsFirstSign_21 (n := 24) rfl mv_X3_flipsFirst lk_X3_86 rfl (zrm (by decide) (by decide)) (Nat.le_of_ble_eq_true rfl) (c_X3_flipsFirst (by first | assumption | exact ⟨by omega, by omega⟩ | exact zb_zr _) hM) (fun r u hp => ?_)
      obtain ⟨rfl, rfl⟩ := hp
      refine z_ifB_eq dX3_flipsFirstSign_24 (n := 27) (tg := 37) rfl (by decide) (fun c24 => ?_) (fun c24 => ?_)
      · rw [show fb (ar 4) (a / 2) b = b from if_neg (fun z => c24 ⟨by omega, by omega, z⟩)] at h9
        refine z_iinc_3 dX3_flipsFirstSign_37 (n := 40) rfl (by decide) (fun w h => by cases h; try rfl) ?_
        refine z_goto dX3_flipsFirstSign_40 (n := 4) (by decide) ?_
        have e9 : fps (ar 4) (a :: t) b = fps (ar 4) t (fb (ar 4) (a / 2) b) := rfl
        rw [e9]
        first | (rw [show fb (ar 4) (a / 2) b = 0 by unfold fb; rw [if_pos c24.2.2]; omega]; exact h9) | (rw [show fb (ar 4) (a / 2) b = 1 by unfold fb; rw [if_pos c24.2.2]; omega]; exact h9) | (rw [show fb (ar 4) (a / 2) b = b from if_neg (fun z => c24 ⟨by omega, by omega, z⟩)]; exact h9)
      · rw [show fb (ar 4) (a / 2) b = 1 - b from if_pos c24.2.2] at h9
        refine z_iload_2 dX3_flipsFirstSign_27 (n := 28) rfl ?_
        refine z_if_ne dX3_flipsFirstSign_28 (n := 31) (tg := 35) rfl (by decide) (by first | assumption | exact ⟨by omega, by omega⟩ | exact zb_zr _) (fun c28 => ?_) (fun c28 => ?_)
        · rw [show 1 - b = 0 by omega] at h9
          refine z_iconst dX3_flipsFirstSign_35 (n := 36) rfl ?_
          refine z_istore_2 dX3_flipsFirstSign_36 (n := 37) rfl (by decide) (fun w h => by cases h; try rfl) ?_
          refine z_iinc_3 dX3_flipsFirstSign_37 (n := 40) rfl (by decide) (fun w h => by cases h; try rfl) ?_
          refine z_goto dX3_flipsFirstSign_40 (n := 4) (by decide) ?_
          have e9 : fps (ar 4) (a :: t) b = fps (ar 4) t (fb (ar 4) (a / 2) b) := rfl
          rw [e9]
          first | (rw [show fb (ar 4) (a / 2) b = 0 by unfold fb; rw [if_pos c24.2.2]; omega]; exact h9) | (rw [show fb (ar 4) (a / 2) b = 1 by unfold fb; rw [if_pos c24.2.2]; omega]; exact h9) | (rw [show fb (ar 4) (a / 2) b = b from if_neg (fun z => c24 ⟨by omega, by omega, z⟩)]; exact h9)
        · rw [show 1 - b = 1 by omega] at h9
          refine z_iconst dX3_flipsFirstSign_31 (n := 32) rfl ?_
          refine z_goto dX3_flipsFirstSign_32 (n := 36) (by decide) ?_
          refine z_istore_2 dX3_flipsFirstSign_36 (n := 37) rfl (by decide) (fun w h => by cases h; try rfl) ?_
          refine z_iinc_3 dX3_flipsFirstSign_37 (n := 40) rfl (by decide) (fun w h => by cases h; try rfl) ?_
          refine z_goto dX3_flipsFirstSign_40 (n := 4) (by decide) ?_
          have e9 : fps (ar 4) (a :: t) b = fps (ar 4) t (fb (ar 4) (a / 2) b) := rfl
          rw [e9]
          first | (rw [show fb (ar 4) (a / 2) b = 0 by unfold fb; rw [if_pos c24.2.2]; omega]; exact h9) | (rw [show fb (ar 4) (a / 2) b = 1 by unfold fb; rw [if_pos c24.2.2]; omega]; exact h9) | (rw [show fb (ar 4) (a / 2) b = b from if_neg (fun z => c24 ⟨by omega, by omega, z⟩)]; exact h9)
set_option maxHeartbeats 4000000 in
theorem c_X3_flipsFirstSign {G : zG} {sz : zSz} {ar : zAr} {k : Nat} {ys : List Int} (hk : isL k) (hM : MOK (sz 3 4) (ar 4) (ar 5)) (hY : LR (sz k 1) (ar (k + 1)) ys) (hy : Lt (sz 3 4) ys) (hyc : ys.length ≤ cap k)  : zSem G mX3_flipsFirstSign 1 [zR 3, zR k] (X sz ar) (zpi fun r u => r = fps (ar 4) ys 0 ∧ u = X sz ar) := by
  refine z_enter (L' := [some (zR 3), some (zR k), none, none]) (by decide +kernel) (Nat.le_of_ble_eq_true rfl) ⟨2, rfl⟩ ?_
  refine z_iconst dX3_flipsFirstSign_0 (n := 1) rfl ?_
  refine z_istore_2 dX3_flipsFirstSign_1 (n := 2) rfl (by decide) (fun w h => by cases h; try rfl) ?_
  refine z_iconst dX3_flipsFirstSign_2 (n := 3) rfl ?_
  refine z_istore_3 dX3_flipsFirstSign_3 (n := 4) rfl (by decide) (fun w h => by cases h; try rfl) ?_
  exact lo_X3_flipsFirstSign hk hM hY hy hyc ys [] 0 rfl (by omega) (by omega)
set_option maxHeartbeats 4000000 in
theorem lo_X3_putSection {G : zG} {sz : zSz} {ar : zAr} {k j : Nat} {ys : List Int} {b0 : Int} (hk : isL k) (hj : isL j) (hkj : k ≠ j) (hM : MOK (sz 3 4) (ar 4) (ar 5)) (hY : LR (sz k 1) (ar (k + 1)) ys) (hy : Lt (sz 3 4) ys) (hyc : ys.length ≤ cap k) :
    ∀ (rest pre acc : List Int) (b : Int) (x y : Option zV) (sz' : zSz) (ar' : zAr), ys = pre ++ rest → LR (sz' j 1) (ar' (j + 1)) acc → Lt (sz 3 4) acc → acc.length + rest.length ≤ cap j → Fr j sz ar sz' ar' → 0 ≤ b → b ≤ 1 → (∀ w, x = some w → zcat w = 1) → 
    zWP G mX3_putSection 3 (zpv (zLP j (rest.foldl (sec1 (ar 4) (ar 5)) (acc, b)).1 sz ar)) 10 [some (zR 3), some (zR k), some (zI b0), some (zR j), some (zI b), some (zI pre.length), x, y] [] (X sz' ar') := by
  have hc := cap_r k
  have hc2 := cap_r j
  have hn := hM.1
  have hn6 := hM.2.1
  intro rest
  induction rest with
  | nil =>
    intro pre acc b x y sz' ar' e hL hA hcap hF h0 h1 hx
    have hY' := hF.L hj hk hkj hY
    have hl := hY'.1
    have el : ys.length = pre.length := by rw [e]; simp
    refine z_iload_5 dX3_putSection_10 (n := 12) rfl ?_
    refine z_aload_1 dX3_putSection_12 (n := 13) rfl ?_
    refine z_callV0i dX3_putSection_13 (n := 16) rfl mv_X1_size lk_X3_102 (XL1 hk) (zrm (by decide) (by decide)) (Nat.le_of_ble_eq_true rfl) (c_X1_size hk) (fun r u hp => ?_)
    obtain ⟨rfl, rfl⟩ := hp
    refine z_icmp_ge dX3_putSection_16 (n := 19) (tg := 78) rfl (by decide) (by first | assumption | exact ⟨by omega, by omega⟩ | exact zb_zr _) (by first | assumption | exact ⟨by omega, by omega⟩ | exact zb_zr _) (fun c16 => ?_) (fun c16 => ?_)
    · refine z_ret_v dX3_putSection_78 rfl ?_
      exact ⟨_, _, rfl, hL, hF⟩
    · exfalso; omega
  | cons a t ih =>
    intro pre acc b x y sz' ar' e hL hA hcap hF h0 h1 hx
    have hY' := hF.L hj hk hkj hY
    have hl := hY'.1
    have el : ys.length = pre.length + (t.length + 1) := by rw [e]; simp
    have ha := hy a (by rw [e]; simp)
    have hm : ar' (k + 1) pre.length = a := LR.mid (t := t) (n := sz' k 1) (by rw [← e]; exact hY')
    obtain ⟨e3, e4, e5⟩ := hF.pl hj
    have hM' : MOK (sz' 3 4) (ar' 4) (ar' 5) := by rw [e3, e4, e5]; exact hM
    have hs := sec1_ok hM hA h0 h1 ha.1 ha.2
    have hlb := lb_r hM ha.1 ha.2 h0 h1
    simp only [List.length_cons] at hcap
    rw [List.foldl_cons]
    refine z_iload_5 dX3_putSection_10 (n := 12) rfl ?_
    refine z_aload_1 dX3_putSection_12 (n := 13) rfl ?_
    refine z_callV0i dX3_putSection_13 (n := 16) rfl mv_X1_size lk_X3_102 (XL1 hk) (zrm (by decide) (by decide)) (Nat.le_of_ble_eq_true rfl) (c_X1_size hk) (fun r u hp => ?_)
    obtain ⟨rfl, rfl⟩ := hp
    refine z_icmp_ge dX3_putSection_16 (n := 19) (tg := 78) rfl (by decide) (by first | assumption | exact ⟨by omega, by omega⟩ | exact zb_zr _) (by first | assumption | exact ⟨by omega, by omega⟩ | exact zb_zr _) (fun c16 => ?_) (fun c16 => ?_)
    · exfalso; omega
    · refine z_aload_1 dX3_putSection_19 (n := 20) rfl ?_
      refine z_iload_5 dX3_putSection_20 (n := 22) rfl ?_
      refine z_callV1i dX3_putSection_22 (n := 25) rfl mv_X1_at lk_X3_106 (XL1 hk) (zrm (by decide) (by decide)) (Nat.le_of_ble_eq_true rfl) (c_X1_at hk (by first | assumption | exact ⟨by omega, by omega⟩ | exact zb_zr _) (by omega) (by omega)) (fun r u hp => ?_)
      obtain ⟨rfl, rfl⟩ := hp
      rw [if_pos (by omega), hm]
      refine z_istore_6 dX3_putSection_25 (n := 27) rfl (by decide) (fun w h => by cases h; try rfl) ?_
      refine z_aload_0 dX3_putSection_27 (n := 28) rfl ?_
      refine z_iload_6 dX3_putSection_28 (n := 30) rfl ?_
      refine z_iload_4 dX3_putSection_30 (n := 32) rfl ?_
      refine z_callV2i dX3_putSection_32 (n := 35) rfl mv_X3_letterBehind lk_X3_112 rfl (zrm (by decide) (by decide)) (Nat.le_of_ble_eq_true rfl) (c_X3_letterBehind (by omega) (by rw [e3]; omega) (by omega) (by omega) hM') (fun r u hp => ?_)
      obtain ⟨rfl, rfl⟩ := hp
      rw [e4, e5]
      refine z_istore_7 dX3_putSection_35 (n := 37) rfl (by decide) (fun w h => by cases h; try rfl) ?_
      refine z_iload_7 dX3_putSection_37 (n := 39) rfl ?_
      refine z_iconst dX3_putSection_39 (n := 40) rfl ?_
      refine z_icmp_eq dX3_putSection_40 (n := 43) (tg := 49) rfl (by decide) (by first | assumption | exact ⟨by omega, by omega⟩ | exact zb_zr _) (by first | assumption | exact ⟨by omega, by omega⟩ | exact zb_zr _) (fun c40 => ?_) (fun c40 => ?_)
      · have es : (sec1 (ar 4) (ar 5) (acc, b) a).1 = acc := if_pos c40
        have hL2 := hL
        refine z_aload_0 dX3_putSection_49 (n := 50) rfl ?_
        refine z_iload_6 dX3_putSection_50 (n := 52) rfl ?_
        refine z_callN1i dX3_putSection_52 (n := 55) rfl ms_X6_stateOf lk_X3_92 (zrm (by decide) (by decide)) (Nat.le_of_ble_eq_true rfl) (c_X6_stateOf (by first | assumption | exact ⟨by omega, by omega⟩ | exact zb_zr _)) (fun r u hp => ?_)
        obtain ⟨rfl, rfl⟩ := hp
        refine z_callV1i dX3_putSection_55 (n := 58) rfl mv_X3_flipsFirst lk_X3_86 rfl (zrm (by decide) (by decide)) (Nat.le_of_ble_eq_true rfl) (c_X3_flipsFirst (by first | assumption | exact ⟨by omega, by omega⟩ | exact zb_zr _) hM') (fun r u hp => ?_)
        obtain ⟨rfl, rfl⟩ := hp
        rw [e3, e4]
        refine z_ifB_eq dX3_putSection_58 (n := 61) (tg := 68) rfl (by decide) (fun c58 => ?_) (fun c58 => ?_)
        · have hfb : b = (sec1 (ar 4) (ar 5) (acc, b) a).2 := (if_neg (fun z => c58 ⟨by omega, by omega, z⟩)).symm
          refine z_iload_4 dX3_putSection_68 (n := 70) rfl ?_
          refine z_istore_4 dX3_putSection_70 (n := 72) rfl (by decide) (fun w h => by cases h; try rfl) ?_
          refine z_iinc_5 dX3_putSection_72 (n := 75) rfl (by decide) (fun w h => by cases h; try rfl) ?_
          refine z_goto dX3_putSection_75 (n := 10) (by decide) ?_
          have h9 := ih (pre ++ [a]) (sec1 (ar 4) (ar 5) (acc, b) a).1 (sec1 (ar 4) (ar 5) (acc, b) a).2 (some (zI a)) (some (zI (lb (ar 4) (ar 5) a b))) _ _ (by rw [e]; simp) (by rw [es]; exact hL2) hs.1 (by omega) hF hs.2.1 hs.2.2.1 (fun w h => by cases h; rfl)
          rw [show ((pre ++ [a]).length : Int) = (pre.length : Int) + 1 by simp, ← hfb] at h9
          rw [show sec1 (ar 4) (ar 5) (acc, b) a = ((sec1 (ar 4) (ar 5) (acc, b) a).1, (sec1 (ar 4) (ar 5) (acc, b) a).2) from rfl, ← hfb]
          exact h9
        · have hfb : 1 - b = (sec1 (ar 4) (ar 5) (acc, b) a).2 := (if_pos c58.2.2).symm
          refine z_iconst dX3_putSection_61 (n := 62) rfl ?_
          refine z_iload_4 dX3_putSection_62 (n := 64) rfl ?_
          refine z_isub dX3_putSection_64 (n := 65) rfl ?_
          refine z_goto dX3_putSection_65 (n := 70) (by decide) ?_
          refine z_istore_4 dX3_putSection_70 (n := 72) rfl (by decide) (fun w h => by cases h; try rfl) ?_
          refine z_iinc_5 dX3_putSection_72 (n := 75) rfl (by decide) (fun w h => by cases h; try rfl) ?_
          refine z_goto dX3_putSection_75 (n := 10) (by decide) ?_
          have h9 := ih (pre ++ [a]) (sec1 (ar 4) (ar 5) (acc, b) a).1 (sec1 (ar 4) (ar 5) (acc, b) a).2 (some (zI a)) (some (zI (lb (ar 4) (ar 5) a b))) _ _ (by rw [e]; simp) (by rw [es]; exact hL2) hs.1 (by omega) hF hs.2.1 hs.2.2.1 (fun w h => by cases h; rfl)
          rw [show ((pre ++ [a]).length : Int) = (pre.length : Int) + 1 by simp, ← hfb] at h9
          rw [show sec1 (ar 4) (ar 5) (acc, b) a = ((sec1 (ar 4) (ar 5) (acc, b) a).1, (sec1 (ar 4) (ar 5) (acc, b) a).2) from rfl, ← hfb]
          exact h9
      · have es : (sec1 (ar 4) (ar 5) (acc, b) a).1 = red acc (lb (ar 4) (ar 5) a b) := if_neg c40
        refine z_aload_3 dX3_putSection_43 (n := 44) rfl ?_
        refine z_iload_7 dX3_putSection_44 (n := 46) rfl ?_
        refine z_callV1v dX3_putSection_46 (n := 49) rfl mv_X1_addReduced lk_X3_115 (XL1 hj) (zrm (by decide) (by decide)) (Nat.le_of_ble_eq_true rfl) (c_X1_addReduced hj (by omega) (by omega) hL (hA.Ls hn6) (by omega)) (fun u hp => ?_)
        obtain ⟨sz2, ar2, rfl, hL2, hF2⟩ := hp
        replace hF := hF.tr hF2
        obtain ⟨e3, e4, e5⟩ := hF.pl hj
        have hM' : MOK (sz2 3 4) (ar2 4) (ar2 5) := by rw [e3, e4, e5]; exact hM
        refine z_aload_0 dX3_putSection_49 (n := 50) rfl ?_
        refine z_iload_6 dX3_putSection_50 (n := 52) rfl ?_
        refine z_callN1i dX3_putSection_52 (n := 55) rfl ms_X6_stateOf lk_X3_92 (zrm (by decide) (by decide)) (Nat.le_of_ble_eq_true rfl) (c_X6_stateOf (by first | assumption | exact ⟨by omega, by omega⟩ | exact zb_zr _)) (fun r u hp => ?_)
        obtain ⟨rfl, rfl⟩ := hp
        refine z_callV1i dX3_putSection_55 (n := 58) rfl mv_X3_flipsFirst lk_X3_86 rfl (zrm (by decide) (by decide)) (Nat.le_of_ble_eq_true rfl) (c_X3_flipsFirst (by first | assumption | exact ⟨by omega, by omega⟩ | exact zb_zr _) hM') (fun r u hp => ?_)
        obtain ⟨rfl, rfl⟩ := hp
        rw [e3, e4]
        refine z_ifB_eq dX3_putSection_58 (n := 61) (tg := 68) rfl (by decide) (fun c58 => ?_) (fun c58 => ?_)
        · have hfb : b = (sec1 (ar 4) (ar 5) (acc, b) a).2 := (if_neg (fun z => c58 ⟨by omega, by omega, z⟩)).symm
          refine z_iload_4 dX3_putSection_68 (n := 70) rfl ?_
          refine z_istore_4 dX3_putSection_70 (n := 72) rfl (by decide) (fun w h => by cases h; try rfl) ?_
          refine z_iinc_5 dX3_putSection_72 (n := 75) rfl (by decide) (fun w h => by cases h; try rfl) ?_
          refine z_goto dX3_putSection_75 (n := 10) (by decide) ?_
          have h9 := ih (pre ++ [a]) (sec1 (ar 4) (ar 5) (acc, b) a).1 (sec1 (ar 4) (ar 5) (acc, b) a).2 (some (zI a)) (some (zI (lb (ar 4) (ar 5) a b))) _ _ (by rw [e]; simp) (by rw [es]; exact hL2) hs.1 (by omega) hF hs.2.1 hs.2.2.1 (fun w h => by cases h; rfl)
          rw [show ((pre ++ [a]).length : Int) = (pre.length : Int) + 1 by simp, ← hfb] at h9
          rw [show sec1 (ar 4) (ar 5) (acc, b) a = ((sec1 (ar 4) (ar 5) (acc, b) a).1, (sec1 (ar 4) (ar 5) (acc, b) a).2) from rfl, ← hfb]
          exact h9
        · have hfb : 1 - b = (sec1 (ar 4) (ar 5) (acc, b) a).2 := (if_pos c58.2.2).symm
          refine z_iconst dX3_putSection_61 (n := 62) rfl ?_
          refine z_iload_4 dX3_putSection_62 (n := 64) rfl ?_
          refine z_isub dX3_putSection_64 (n := 65) rfl ?_
          refine z_goto dX3_putSection_65 (n := 70) (by decide) ?_
          refine z_istore_4 dX3_putSection_70 (n := 72) rfl (by decide) (fun w h => by cases h; try rfl) ?_
          refine z_iinc_5 dX3_putSection_72 (n := 75) rfl (by decide) (fun w h => by cases h; try rfl) ?_
          refine z_goto dX3_putSection_75 (n := 10) (by decide) ?_
          have h9 := ih (pre ++ [a]) (sec1 (ar 4) (ar 5) (acc, b) a).1 (sec1 (ar 4) (ar 5) (acc, b) a).2 (some (zI a)) (some (zI (lb (ar 4) (ar 5) a b))) _ _ (by rw [e]; simp) (by rw [es]; exact hL2) hs.1 (by omega) hF hs.2.1 hs.2.2.1 (fun w h => by cases h; rfl)
          rw [show ((pre ++ [a]).length : Int) = (pre.length : Int) + 1 by simp, ← hfb] at h9
          rw [show sec1 (ar 4) (ar 5) (acc, b) a = ((sec1 (ar 4) (ar 5) (acc, b) a).1, (sec1 (ar 4) (ar 5) (acc, b) a).2) from rfl, ← hfb]
          exact h9
set_option maxHeartbeats 4000000 in
theorem c_X3_putSection {G : zG} {sz : zSz} {ar : zAr} {k j : Nat} {ys : List Int} {b : Int} (hk : isL k) (hj : isL j) (hkj : k ≠ j) (hM : MOK (sz 3 4) (ar 4) (ar 5)) (hY : LR (sz k 1) (ar (k + 1)) ys) (hy : Lt (sz 3 4) ys) (hyc : ys.length ≤ cap k) (hs : ys.length ≤ cap j) (h0 : 0 ≤ b) (h1 : b ≤ 1)  : zSem G mX3_putSection 3 [zR 3, zR k, zI b, zR j] (X sz ar) (zpv fun u => zLP j (sec (ar 4) (ar 5) ys b) sz ar u) := by
  refine z_enter (L' := [some (zR 3), some (zR k), some (zI b), some (zR j), none, none, none, none]) (by decide +kernel) (Nat.le_of_ble_eq_true rfl) ⟨4, rfl⟩ ?_
  refine z_iload_2 dX3_putSection_0 (n := 1) rfl ?_
  refine z_istore_4 dX3_putSection_1 (n := 3) rfl (by decide) (fun w h => by cases h; try rfl) ?_
  refine z_aload_3 dX3_putSection_3 (n := 4) rfl ?_
  refine z_callV0v dX3_putSection_4 (n := 7) rfl mv_X1_clear lk_X3_109 (XL1 hj) (zrm (by decide) (by decide)) (Nat.le_of_ble_eq_true rfl) (c_X1_clear hj) (fun u hp => ?_)
  subst hp
  refine z_iconst dX3_putSection_7 (n := 8) rfl ?_
  refine z_istore_5 dX3_putSection_8 (n := 10) rfl (by decide) (fun w h => by cases h; try rfl) ?_
  exact lo_X3_putSection hk hj hkj hM hY hy hyc ys [] [] b none none _ _ rfl (by rw [zz_eq]; exact LR.nil) Lt.nil (by simp; omega) ⟨fun i hi => zz_ne hi, fun i hi => rfl⟩ h0 h1 (fun w h => by cases h)
