/-! Plan: the machine -/
set_option maxHeartbeats 4000000 in
theorem c_X3_size {G : zG} {sz : zSz} {ar : zAr}  : zSem G mX3_size 0 [zR 3] (X sz ar) (zpi fun r u => r = sz 3 4 ∧ u = X sz ar) := by
  refine z_enter (L' := [some (zR 3)]) (by decide +kernel) (Nat.le_of_ble_eq_true rfl) ⟨0, rfl⟩ ?_
  refine z_aload_0 dX3_size_0 (n := 1) rfl ?_
  refine z_get dX3_size_1 (n := 4) rfl rfl fd_X3_24 rfl ?_
  refine z_ret_i dX3_size_4 rfl ?_
  exact ⟨rfl, rfl⟩
set_option maxHeartbeats 4000000 in
theorem c_X3_has {G : zG} {sz : zSz} {ar : zAr} {s : Int} (hs : zr s) (hn : zr (sz 3 4))  : zSem G mX3_has 0 [zR 3, zI s] (X sz ar) (zpi fun r u => r = zb (0 ≤ s ∧ s < sz 3 4) ∧ u = X sz ar) := by
  refine z_enter (L' := [some (zR 3), some (zI s)]) (by decide +kernel) (Nat.le_of_ble_eq_true rfl) ⟨0, rfl⟩ ?_
  refine z_iload_1 dX3_has_0 (n := 1) rfl ?_
  refine z_if_lt dX3_has_1 (n := 4) (tg := 16) rfl (by decide) (by first | assumption | exact ⟨by omega, by omega⟩ | exact zb_zr _) (fun c1 => ?_) (fun c1 => ?_)
  · refine z_iconst dX3_has_16 (n := 17) rfl ?_
    refine z_ret_z dX3_has_17 rfl (by first | exact Or.inl rfl | exact Or.inr rfl | exact zb_or _) ?_
    first | exact ⟨(zb_t (by omega)).symm, rfl⟩ | exact ⟨(zb_f (by omega)).symm, rfl⟩
  · refine z_iload_1 dX3_has_4 (n := 5) rfl ?_
    refine z_aload_0 dX3_has_5 (n := 6) rfl ?_
    refine z_get dX3_has_6 (n := 9) rfl rfl fd_X3_24 rfl ?_
    refine z_icmp_ge dX3_has_9 (n := 12) (tg := 16) rfl (by decide) (by first | assumption | exact ⟨by omega, by omega⟩ | exact zb_zr _) (by first | assumption | exact ⟨by omega, by omega⟩ | exact zb_zr _) (fun c9 => ?_) (fun c9 => ?_)
    · refine z_iconst dX3_has_16 (n := 17) rfl ?_
      refine z_ret_z dX3_has_17 rfl (by first | exact Or.inl rfl | exact Or.inr rfl | exact zb_or _) ?_
      first | exact ⟨(zb_t (by omega)).symm, rfl⟩ | exact ⟨(zb_f (by omega)).symm, rfl⟩
    · refine z_iconst dX3_has_12 (n := 13) rfl ?_
      refine z_goto dX3_has_13 (n := 17) (by decide) ?_
      refine z_ret_z dX3_has_17 rfl (by first | exact Or.inl rfl | exact Or.inr rfl | exact zb_or _) ?_
      first | exact ⟨(zb_t (by omega)).symm, rfl⟩ | exact ⟨(zb_f (by omega)).symm, rfl⟩
set_option maxHeartbeats 4000000 in
theorem c_X3_kindOf {G : zG} {sz : zSz} {ar : zAr} {s : Int} (hs : zr s) (hn : 0 ≤ sz 3 4 ∧ sz 3 4 ≤ 6)  : zSem G mX3_kindOf 1 [zR 3, zI s] (X sz ar) (zpi fun r u => r = (if 0 ≤ s ∧ s < sz 3 4 then ar 4 s else -1) ∧ u = X sz ar) := by
  refine z_enter (L' := [some (zR 3), some (zI s)]) (by decide +kernel) (Nat.le_of_ble_eq_true rfl) ⟨0, rfl⟩ ?_
  refine z_aload_0 dX3_kindOf_0 (n := 1) rfl ?_
  refine z_iload_1 dX3_kindOf_1 (n := 2) rfl ?_
  refine z_callV1i dX3_kindOf_2 (n := 5) rfl mv_X3_has lk_X3_61 rfl (zrm (by decide) (by decide)) (Nat.le_of_ble_eq_true rfl) (c_X3_has (by first | assumption | exact ⟨by omega, by omega⟩ | exact zb_zr _) (by first | assumption | exact ⟨by omega, by omega⟩ | exact zb_zr _)) (fun r u hp => ?_)
  obtain ⟨rfl, rfl⟩ := hp
  refine z_ifB_eq dX3_kindOf_5 (n := 8) (tg := 17) rfl (by decide) (fun c5 => ?_) (fun c5 => ?_)
  · refine z_iconst dX3_kindOf_17 (n := 18) rfl ?_
    refine z_ret_i dX3_kindOf_18 rfl ?_
    first | exact ⟨(if_pos (by omega)).symm, rfl⟩ | exact ⟨(if_neg (by omega)).symm, rfl⟩
  · refine z_aload_0 dX3_kindOf_8 (n := 9) rfl ?_
    refine z_get dX3_kindOf_9 (n := 12) rfl rfl fd_X3_9 rfl ?_
    refine z_iload_1 dX3_kindOf_12 (n := 13) rfl ?_
    refine z_iald dX3_kindOf_13 (n := 14) rfl rfl (by omega) (by omega) (by decide) ?_
    refine z_goto dX3_kindOf_14 (n := 18) (by decide) ?_
    refine z_ret_i dX3_kindOf_18 rfl ?_
    first | exact ⟨(if_pos (by omega)).symm, rfl⟩ | exact ⟨(if_neg (by omega)).symm, rfl⟩
set_option maxHeartbeats 4000000 in
theorem c_X3_setKind {G : zG} {sz : zSz} {ar : zAr} {s v : Int} (h0 : 0 ≤ s) (h1 : s < sz 3 4) (hn : sz 3 4 ≤ 6)  : zSem G mX3_setKind 1 [zR 3, zI s, zI v] (X sz ar) (zpv fun u => u = X sz (zq ar 4 (zf (ar 4) s v))) := by
  refine z_enter (L' := [some (zR 3), some (zI s), some (zI v)]) (by decide +kernel) (Nat.le_of_ble_eq_true rfl) ⟨0, rfl⟩ ?_
  refine z_aload_0 dX3_setKind_0 (n := 1) rfl ?_
  refine z_iload_1 dX3_setKind_1 (n := 2) rfl ?_
  refine z_callV1i dX3_setKind_2 (n := 5) rfl mv_X3_has lk_X3_61 rfl (zrm (by decide) (by decide)) (Nat.le_of_ble_eq_true rfl) (c_X3_has (by first | assumption | exact ⟨by omega, by omega⟩ | exact zb_zr _) (by first | assumption | exact ⟨by omega, by omega⟩ | exact zb_zr _)) (fun r u hp => ?_)
  obtain ⟨rfl, rfl⟩ := hp
  refine z_ifB_eq dX3_setKind_5 (n := 8) (tg := 15) rfl (by decide) (fun c5 => ?_) (fun c5 => ?_)
  · exfalso; omega
  · refine z_aload_0 dX3_setKind_8 (n := 9) rfl ?_
    refine z_get dX3_setKind_9 (n := 12) rfl rfl fd_X3_9 rfl ?_
    refine z_iload_1 dX3_setKind_12 (n := 13) rfl ?_
    refine z_iload_2 dX3_setKind_13 (n := 14) rfl ?_
    refine z_iastX dX3_setKind_14 (n := 15) rfl rfl (by omega) (by omega) (by decide) rfl ?_
    refine z_ret_v dX3_setKind_15 rfl ?_
    rfl
set_option maxHeartbeats 4000000 in
theorem c_X3_toldNext {G : zG} {sz : zSz} {ar : zAr} {s b : Int} (h0 : 0 ≤ s) (h1 : s < sz 3 4) (hn : sz 3 4 ≤ 6) (hb0 : 0 ≤ b) (hb1 : b ≤ 1)  : zSem G mX3_toldNext 1 [zR 3, zI s, zI b] (X sz ar) (zpi fun r u => r = ar 5 (2 * s + b) ∧ u = X sz ar) := by
  refine z_enter (L' := [some (zR 3), some (zI s), some (zI b)]) (by decide +kernel) (Nat.le_of_ble_eq_true rfl) ⟨0, rfl⟩ ?_
  refine z_aload_0 dX3_toldNext_0 (n := 1) rfl ?_
  refine z_iload_1 dX3_toldNext_1 (n := 2) rfl ?_
  refine z_callV1i dX3_toldNext_2 (n := 5) rfl mv_X3_has lk_X3_61 rfl (zrm (by decide) (by decide)) (Nat.le_of_ble_eq_true rfl) (c_X3_has (by first | assumption | exact ⟨by omega, by omega⟩ | exact zb_zr _) (by first | assumption | exact ⟨by omega, by omega⟩ | exact zb_zr _)) (fun r u hp => ?_)
  obtain ⟨rfl, rfl⟩ := hp
  refine z_ifB_eq dX3_toldNext_5 (n := 8) (tg := 28) rfl (by decide) (fun c5 => ?_) (fun c5 => ?_)
  · exfalso; omega
  · refine z_iload_2 dX3_toldNext_8 (n := 9) rfl ?_
    refine z_callN1i dX3_toldNext_9 (n := 12) rfl ms_X6_isSign lk_X3_65 (zrm (by decide) (by decide)) (Nat.le_of_ble_eq_true rfl) (c_X6_isSign (by first | assumption | exact ⟨by omega, by omega⟩ | exact zb_zr _)) (fun r u hp => ?_)
    obtain ⟨rfl, rfl⟩ := hp
    refine z_ifB_eq dX3_toldNext_12 (n := 15) (tg := 28) rfl (by decide) (fun c12 => ?_) (fun c12 => ?_)
    · exfalso; omega
    · refine z_aload_0 dX3_toldNext_15 (n := 16) rfl ?_
      refine z_get dX3_toldNext_16 (n := 19) rfl rfl fd_X3_15 rfl ?_
      refine z_iconst dX3_toldNext_19 (n := 20) rfl ?_
      refine z_iload_1 dX3_toldNext_20 (n := 21) rfl ?_
      refine z_imul dX3_toldNext_21 (n := 22) rfl ?_
      refine z_iload_2 dX3_toldNext_22 (n := 23) rfl ?_
      refine z_iadd dX3_toldNext_23 (n := 24) rfl ?_
      refine z_iald dX3_toldNext_24 (n := 25) rfl rfl (by omega) (by omega) (by decide) ?_
      refine z_goto dX3_toldNext_25 (n := 29) (by decide) ?_
      refine z_ret_i dX3_toldNext_29 rfl ?_
      exact ⟨rfl, rfl⟩
set_option maxHeartbeats 4000000 in
theorem c_X3_setNext {G : zG} {sz : zSz} {ar : zAr} {s b v : Int} (h0 : 0 ≤ s) (h1 : s < sz 3 4) (hn : sz 3 4 ≤ 6) (hb0 : 0 ≤ b) (hb1 : b ≤ 1)  : zSem G mX3_setNext 1 [zR 3, zI s, zI b, zI v] (X sz ar) (zpv fun u => u = X sz (zq ar 5 (zf (ar 5) (2 * s + b) v))) := by
  refine z_enter (L' := [some (zR 3), some (zI s), some (zI b), some (zI v)]) (by decide +kernel) (Nat.le_of_ble_eq_true rfl) ⟨0, rfl⟩ ?_
  refine z_aload_0 dX3_setNext_0 (n := 1) rfl ?_
  refine z_iload_1 dX3_setNext_1 (n := 2) rfl ?_
  refine z_callV1i dX3_setNext_2 (n := 5) rfl mv_X3_has lk_X3_61 rfl (zrm (by decide) (by decide)) (Nat.le_of_ble_eq_true rfl) (c_X3_has (by first | assumption | exact ⟨by omega, by omega⟩ | exact zb_zr _) (by first | assumption | exact ⟨by omega, by omega⟩ | exact zb_zr _)) (fun r u hp => ?_)
  obtain ⟨rfl, rfl⟩ := hp
  refine z_ifB_eq dX3_setNext_5 (n := 8) (tg := 26) rfl (by decide) (fun c5 => ?_) (fun c5 => ?_)
  · exfalso; omega
  · refine z_iload_2 dX3_setNext_8 (n := 9) rfl ?_
    refine z_callN1i dX3_setNext_9 (n := 12) rfl ms_X6_isSign lk_X3_65 (zrm (by decide) (by decide)) (Nat.le_of_ble_eq_true rfl) (c_X6_isSign (by first | assumption | exact ⟨by omega, by omega⟩ | exact zb_zr _)) (fun r u hp => ?_)
    obtain ⟨rfl, rfl⟩ := hp
    refine z_ifB_eq dX3_setNext_12 (n := 15) (tg := 26) rfl (by decide) (fun c12 => ?_) (fun c12 => ?_)
    · exfalso; omega
    · refine z_aload_0 dX3_setNext_15 (n := 16) rfl ?_
      refine z_get dX3_setNext_16 (n := 19) rfl rfl fd_X3_15 rfl ?_
      refine z_iconst dX3_setNext_19 (n := 20) rfl ?_
      refine z_iload_1 dX3_setNext_20 (n := 21) rfl ?_
      refine z_imul dX3_setNext_21 (n := 22) rfl ?_
      refine z_iload_2 dX3_setNext_22 (n := 23) rfl ?_
      refine z_iadd dX3_setNext_23 (n := 24) rfl ?_
      refine z_iload_3 dX3_setNext_24 (n := 25) rfl ?_
      refine z_iastX dX3_setNext_25 (n := 26) rfl rfl (by omega) (by omega) (by decide) rfl ?_
      refine z_ret_v dX3_setNext_26 rfl ?_
      rfl
set_option maxHeartbeats 4000000 in
theorem c_X3_flipsFirst {G : zG} {sz : zSz} {ar : zAr} {s : Int} (hs : zr s) (hM : MOK (sz 3 4) (ar 4) (ar 5))  : zSem G mX3_flipsFirst 0 [zR 3, zI s] (X sz ar) (zpi fun r u => r = zb (0 ≤ s ∧ s < sz 3 4 ∧ fl (ar 4) s) ∧ u = X sz ar) := by
  refine z_enter (L' := [some (zR 3), some (zI s), none]) (by decide +kernel) (Nat.le_of_ble_eq_true rfl) ⟨1, rfl⟩ ?_
  have hn := hM.1
  have hn6 := hM.2.1
  refine z_iload_1 dX3_flipsFirst_0 (n := 1) rfl ?_
  refine z_if_lt dX3_flipsFirst_1 (n := 4) (tg := 12) rfl (by decide) (by first | assumption | exact ⟨by omega, by omega⟩ | exact zb_zr _) (fun c1 => ?_) (fun c1 => ?_)
  · refine z_iconst dX3_flipsFirst_12 (n := 13) rfl ?_
    refine z_ret_z dX3_flipsFirst_13 rfl (by first | exact Or.inl rfl | exact Or.inr rfl | exact zb_or _) ?_
    first | exact ⟨(zb_t (by unfold fl; omega)).symm, rfl⟩ | exact ⟨(zb_f (by unfold fl; omega)).symm, rfl⟩
  · refine z_iload_1 dX3_flipsFirst_4 (n := 5) rfl ?_
    refine z_aload_0 dX3_flipsFirst_5 (n := 6) rfl ?_
    refine z_get dX3_flipsFirst_6 (n := 9) rfl rfl fd_X3_24 rfl ?_
    refine z_icmp_lt dX3_flipsFirst_9 (n := 12) (tg := 14) rfl (by decide) (by first | assumption | exact ⟨by omega, by omega⟩ | exact zb_zr _) (by first | assumption | exact ⟨by omega, by omega⟩ | exact zb_zr _) (fun c9 => ?_) (fun c9 => ?_)
    · have hk := hM.2.2.1 s (by omega) (by omega)
      refine z_aload_0 dX3_flipsFirst_14 (n := 15) rfl ?_
      refine z_get dX3_flipsFirst_15 (n := 18) rfl rfl fd_X3_9 rfl ?_
      refine z_iload_1 dX3_flipsFirst_18 (n := 19) rfl ?_
      refine z_iald dX3_flipsFirst_19 (n := 20) rfl rfl (by omega) (by omega) (by decide) ?_
      refine z_istore_2 dX3_flipsFirst_20 (n := 21) rfl (by decide) (fun w h => by cases h; try rfl) ?_
      refine z_iload_2 dX3_flipsFirst_21 (n := 22) rfl ?_
      refine z_iconst dX3_flipsFirst_22 (n := 23) rfl ?_
      refine z_icmp_eq dX3_flipsFirst_23 (n := 26) (tg := 36) rfl (by decide) (by first | assumption | exact ⟨by omega, by omega⟩ | exact zb_zr _) (by first | assumption | exact ⟨by omega, by omega⟩ | exact zb_zr _) (fun c23 => ?_) (fun c23 => ?_)
      · refine z_iconst dX3_flipsFirst_36 (n := 37) rfl ?_
        refine z_goto dX3_flipsFirst_37 (n := 41) (by decide) ?_
        refine z_ret_z dX3_flipsFirst_41 rfl (by first | exact Or.inl rfl | exact Or.inr rfl | exact zb_or _) ?_
        first | exact ⟨(zb_t (by unfold fl; omega)).symm, rfl⟩ | exact ⟨(zb_f (by unfold fl; omega)).symm, rfl⟩
      · refine z_iload_2 dX3_flipsFirst_26 (n := 27) rfl ?_
        refine z_iconst dX3_flipsFirst_27 (n := 28) rfl ?_
        refine z_icmp_eq dX3_flipsFirst_28 (n := 31) (tg := 36) rfl (by decide) (by first | assumption | exact ⟨by omega, by omega⟩ | exact zb_zr _) (by first | assumption | exact ⟨by omega, by omega⟩ | exact zb_zr _) (fun c28 => ?_) (fun c28 => ?_)
        · refine z_iconst dX3_flipsFirst_36 (n := 37) rfl ?_
          refine z_goto dX3_flipsFirst_37 (n := 41) (by decide) ?_
          refine z_ret_z dX3_flipsFirst_41 rfl (by first | exact Or.inl rfl | exact Or.inr rfl | exact zb_or _) ?_
          first | exact ⟨(zb_t (by unfold fl; omega)).symm, rfl⟩ | exact ⟨(zb_f (by unfold fl; omega)).symm, rfl⟩
        · refine z_iload_2 dX3_flipsFirst_31 (n := 32) rfl ?_
          refine z_iconst dX3_flipsFirst_32 (n := 33) rfl ?_
          refine z_icmp_ne dX3_flipsFirst_33 (n := 36) (tg := 40) rfl (by decide) (by first | assumption | exact ⟨by omega, by omega⟩ | exact zb_zr _) (by first | assumption | exact ⟨by omega, by omega⟩ | exact zb_zr _) (fun c33 => ?_) (fun c33 => ?_)
          · refine z_iconst dX3_flipsFirst_40 (n := 41) rfl ?_
            refine z_ret_z dX3_flipsFirst_41 rfl (by first | exact Or.inl rfl | exact Or.inr rfl | exact zb_or _) ?_
            first | exact ⟨(zb_t (by unfold fl; omega)).symm, rfl⟩ | exact ⟨(zb_f (by unfold fl; omega)).symm, rfl⟩
          · refine z_iconst dX3_flipsFirst_36 (n := 37) rfl ?_
            refine z_goto dX3_flipsFirst_37 (n := 41) (by decide) ?_
            refine z_ret_z dX3_flipsFirst_41 rfl (by first | exact Or.inl rfl | exact Or.inr rfl | exact zb_or _) ?_
            first | exact ⟨(zb_t (by unfold fl; omega)).symm, rfl⟩ | exact ⟨(zb_f (by unfold fl; omega)).symm, rfl⟩
    · refine z_iconst dX3_flipsFirst_12 (n := 13) rfl ?_
      refine z_ret_z dX3_flipsFirst_13 rfl (by first | exact Or.inl rfl | exact Or.inr rfl | exact zb_or _) ?_
      first | exact ⟨(zb_t (by unfold fl; omega)).symm, rfl⟩ | exact ⟨(zb_f (by unfold fl; omega)).symm, rfl⟩
set_option maxHeartbeats 4000000 in
theorem c_X3_goesOn {G : zG} {sz : zSz} {ar : zAr} {s w : Int} (hs : zr s) (hw : 0 ≤ w ∧ w ≤ 1) (hM : MOK (sz 3 4) (ar 4) (ar 5))  : zSem G mX3_goesOn 0 [zR 3, zI s, zI w] (X sz ar) (zpi fun r u => r = (if 0 ≤ s ∧ s < sz 3 4 then gon (ar 4) (ar 5) s w else -1) ∧ u = X sz ar) := by
  refine z_enter (L' := [some (zR 3), some (zI s), some (zI w), none]) (by decide +kernel) (Nat.le_of_ble_eq_true rfl) ⟨1, rfl⟩ ?_
  have hn := hM.1
  have hn6 := hM.2.1
  refine z_iload_1 dX3_goesOn_0 (n := 1) rfl ?_
  refine z_if_lt dX3_goesOn_1 (n := 4) (tg := 21) rfl (by decide) (by first | assumption | exact ⟨by omega, by omega⟩ | exact zb_zr _) (fun c1 => ?_) (fun c1 => ?_)
  · refine z_iconst dX3_goesOn_21 (n := 22) rfl ?_
    refine z_ret_i dX3_goesOn_22 rfl ?_
    first | exact ⟨(if_neg (by omega)).symm, rfl⟩ | exact ⟨by unfold gon; rw [if_neg (by omega), if_neg (by omega)], rfl⟩ | exact ⟨by unfold gon; rw [if_neg (by omega), if_pos (by omega)], rfl⟩ | exact ⟨by unfold gon; rw [if_pos (by omega)], rfl⟩
  · refine z_iload_1 dX3_goesOn_4 (n := 5) rfl ?_
    refine z_aload_0 dX3_goesOn_5 (n := 6) rfl ?_
    refine z_get dX3_goesOn_6 (n := 9) rfl rfl fd_X3_24 rfl ?_
    refine z_icmp_ge dX3_goesOn_9 (n := 12) (tg := 21) rfl (by decide) (by first | assumption | exact ⟨by omega, by omega⟩ | exact zb_zr _) (by first | assumption | exact ⟨by omega, by omega⟩ | exact zb_zr _) (fun c9 => ?_) (fun c9 => ?_)
    · refine z_iconst dX3_goesOn_21 (n := 22) rfl ?_
      refine z_ret_i dX3_goesOn_22 rfl ?_
      first | exact ⟨(if_neg (by omega)).symm, rfl⟩ | exact ⟨by unfold gon; rw [if_neg (by omega), if_neg (by omega)], rfl⟩ | exact ⟨by unfold gon; rw [if_neg (by omega), if_pos (by omega)], rfl⟩ | exact ⟨by unfold gon; rw [if_pos (by omega)], rfl⟩
    · refine z_iload_2 dX3_goesOn_12 (n := 13) rfl ?_
      refine z_if_lt dX3_goesOn_13 (n := 16) (tg := 21) rfl (by decide) (by first | assumption | exact ⟨by omega, by omega⟩ | exact zb_zr _) (fun c13 => ?_) (fun c13 => ?_)
      · exfalso; omega
      · refine z_iload_2 dX3_goesOn_16 (n := 17) rfl ?_
        refine z_iconst dX3_goesOn_17 (n := 18) rfl ?_
        refine z_icmp_le dX3_goesOn_18 (n := 21) (tg := 23) rfl (by decide) (by first | assumption | exact ⟨by omega, by omega⟩ | exact zb_zr _) (by first | assumption | exact ⟨by omega, by omega⟩ | exact zb_zr _) (fun c18 => ?_) (fun c18 => ?_)
        · have hk := hM.2.2.1 s (by omega) (by omega)
          rw [if_pos (show 0 ≤ s ∧ s < sz 3 4 by omega)]
          refine z_aload_0 dX3_goesOn_23 (n := 24) rfl ?_
          refine z_get dX3_goesOn_24 (n := 27) rfl rfl fd_X3_9 rfl ?_
          refine z_iload_1 dX3_goesOn_27 (n := 28) rfl ?_
          refine z_iald dX3_goesOn_28 (n := 29) rfl rfl (by omega) (by omega) (by decide) ?_
          refine z_istore_3 dX3_goesOn_29 (n := 30) rfl (by decide) (fun w h => by cases h; try rfl) ?_
          refine z_iload_3 dX3_goesOn_30 (n := 31) rfl ?_
          refine z_iconst dX3_goesOn_31 (n := 32) rfl ?_
          refine z_icmp_eq dX3_goesOn_32 (n := 35) (tg := 40) rfl (by decide) (by first | assumption | exact ⟨by omega, by omega⟩ | exact zb_zr _) (by first | assumption | exact ⟨by omega, by omega⟩ | exact zb_zr _) (fun c32 => ?_) (fun c32 => ?_)
          · refine z_iconst dX3_goesOn_40 (n := 41) rfl ?_
            refine z_ret_i dX3_goesOn_41 rfl ?_
            first | exact ⟨(if_neg (by omega)).symm, rfl⟩ | exact ⟨by unfold gon; rw [if_neg (by omega), if_neg (by omega)], rfl⟩ | exact ⟨by unfold gon; rw [if_neg (by omega), if_pos (by omega)], rfl⟩ | exact ⟨by unfold gon; rw [if_pos (by omega)], rfl⟩
          · refine z_iload_3 dX3_goesOn_35 (n := 36) rfl ?_
            refine z_iconst dX3_goesOn_36 (n := 37) rfl ?_
            refine z_icmp_ne dX3_goesOn_37 (n := 40) (tg := 42) rfl (by decide) (by first | assumption | exact ⟨by omega, by omega⟩ | exact zb_zr _) (by first | assumption | exact ⟨by omega, by omega⟩ | exact zb_zr _) (fun c37 => ?_) (fun c37 => ?_)
            · refine z_aload_0 dX3_goesOn_42 (n := 43) rfl ?_
              refine z_get dX3_goesOn_43 (n := 46) rfl rfl fd_X3_15 rfl ?_
              refine z_iconst dX3_goesOn_46 (n := 47) rfl ?_
              refine z_iload_1 dX3_goesOn_47 (n := 48) rfl ?_
              refine z_imul dX3_goesOn_48 (n := 49) rfl ?_
              refine z_iload_3 dX3_goesOn_49 (n := 50) rfl ?_
              refine z_iconst dX3_goesOn_50 (n := 51) rfl ?_
              refine z_icmp_ne dX3_goesOn_51 (n := 54) (tg := 60) rfl (by decide) (by first | assumption | exact ⟨by omega, by omega⟩ | exact zb_zr _) (by first | assumption | exact ⟨by omega, by omega⟩ | exact zb_zr _) (fun c51 => ?_) (fun c51 => ?_)
              · refine z_iload_2 dX3_goesOn_60 (n := 61) rfl ?_
                refine z_iadd dX3_goesOn_61 (n := 62) rfl ?_
                refine z_iald dX3_goesOn_62 (n := 63) rfl rfl (by omega) (by omega) (by decide) ?_
                refine z_ret_i dX3_goesOn_63 rfl ?_
                first | exact ⟨(if_neg (by omega)).symm, rfl⟩ | exact ⟨by unfold gon; rw [if_neg (by omega), if_neg (by omega)], rfl⟩ | exact ⟨by unfold gon; rw [if_neg (by omega), if_pos (by omega)], rfl⟩ | exact ⟨by unfold gon; rw [if_pos (by omega)], rfl⟩
              · refine z_iconst dX3_goesOn_54 (n := 55) rfl ?_
                refine z_iload_2 dX3_goesOn_55 (n := 56) rfl ?_
                refine z_isub dX3_goesOn_56 (n := 57) rfl ?_
                refine z_goto dX3_goesOn_57 (n := 61) (by decide) ?_
                refine z_iadd dX3_goesOn_61 (n := 62) rfl ?_
                refine z_iald dX3_goesOn_62 (n := 63) rfl rfl (by omega) (by omega) (by decide) ?_
                refine z_ret_i dX3_goesOn_63 rfl ?_
                first | exact ⟨(if_neg (by omega)).symm, rfl⟩ | exact ⟨by unfold gon; rw [if_neg (by omega), if_neg (by omega)], rfl⟩ | exact ⟨by unfold gon; rw [if_neg (by omega), if_pos (by omega)], rfl⟩ | exact ⟨by unfold gon; rw [if_pos (by omega)], rfl⟩
            · refine z_iconst dX3_goesOn_40 (n := 41) rfl ?_
              refine z_ret_i dX3_goesOn_41 rfl ?_
              first | exact ⟨(if_neg (by omega)).symm, rfl⟩ | exact ⟨by unfold gon; rw [if_neg (by omega), if_neg (by omega)], rfl⟩ | exact ⟨by unfold gon; rw [if_neg (by omega), if_pos (by omega)], rfl⟩ | exact ⟨by unfold gon; rw [if_pos (by omega)], rfl⟩
        · exfalso; omega
