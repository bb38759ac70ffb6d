/-! the reference: page, machine, words -/
set_option maxHeartbeats 4000000 in
theorem c_X7_within {G : zG} {sz : zSz} {ar : zAr} {v a b : Int} (hv : zr v) (ha : zr a) (hb : zr b)  : zSem G mX7_within 0 [zI v, zI a, zI b] (X sz ar) (zpi fun r u => r = zb (a ≤ v ∧ v ≤ b) ∧ u = X sz ar) := by
  refine z_enter (L' := [some (zI v), some (zI a), some (zI b)]) (by decide +kernel) (Nat.le_of_ble_eq_true rfl) ⟨0, rfl⟩ ?_
  refine z_iload_0 dX7_within_0 (n := 1) rfl ?_
  refine z_iload_1 dX7_within_1 (n := 2) rfl ?_
  refine z_icmp_lt dX7_within_2 (n := 5) (tg := 14) rfl (by decide) (by first | assumption | exact ⟨by omega, by omega⟩ | exact zb_zr _) (by first | assumption | exact ⟨by omega, by omega⟩ | exact zb_zr _) (fun c2 => ?_) (fun c2 => ?_)
  · refine z_iconst dX7_within_14 (n := 15) rfl ?_
    refine z_ret_z dX7_within_15 rfl (by first | exact Or.inl rfl | exact Or.inr rfl | exact zb_or _) ?_
    first | exact ⟨(zb_t (by omega)).symm, rfl⟩ | exact ⟨(zb_f (by omega)).symm, rfl⟩
  · refine z_iload_0 dX7_within_5 (n := 6) rfl ?_
    refine z_iload_2 dX7_within_6 (n := 7) rfl ?_
    refine z_icmp_gt dX7_within_7 (n := 10) (tg := 14) rfl (by decide) (by first | assumption | exact ⟨by omega, by omega⟩ | exact zb_zr _) (by first | assumption | exact ⟨by omega, by omega⟩ | exact zb_zr _) (fun c7 => ?_) (fun c7 => ?_)
    · refine z_iconst dX7_within_14 (n := 15) rfl ?_
      refine z_ret_z dX7_within_15 rfl (by first | exact Or.inl rfl | exact Or.inr rfl | exact zb_or _) ?_
      first | exact ⟨(zb_t (by omega)).symm, rfl⟩ | exact ⟨(zb_f (by omega)).symm, rfl⟩
    · refine z_iconst dX7_within_10 (n := 11) rfl ?_
      refine z_goto dX7_within_11 (n := 15) (by decide) ?_
      refine z_ret_z dX7_within_15 rfl (by first | exact Or.inl rfl | exact Or.inr rfl | exact zb_or _) ?_
      first | exact ⟨(zb_t (by omega)).symm, rfl⟩ | exact ⟨(zb_f (by omega)).symm, rfl⟩
set_option maxHeartbeats 4000000 in
theorem c_X7_isBit {G : zG} {sz : zSz} {ar : zAr} {s k : Int} (hs : zr s) (h0 : 0 ≤ s) (hk0 : 0 ≤ k) (hk1 : k < 32)  : zSem G mX7_isBit 0 [zI s, zI k] (X sz ar) (zpi fun r u => r = zb (s / 2 ^ k.toNat % 2 = 1) ∧ u = X sz ar) := by
  refine z_enter (L' := [some (zI s), some (zI k)]) (by decide +kernel) (Nat.le_of_ble_eq_true rfl) ⟨0, rfl⟩ ?_
  have hd : 0 ≤ s / 2 ^ k.toNat := Int.ediv_nonneg h0 (Int.le_of_lt (p2_pos _))
  refine z_iload_0 dX7_isBit_0 (n := 1) rfl ?_
  refine z_iload_1 dX7_isBit_1 (n := 2) rfl ?_
  refine z_ishr dX7_isBit_2 (n := 3) rfl (by first | assumption | exact ⟨by omega, by omega⟩ | exact zb_zr _) (by first | assumption | omega) (by first | assumption | omega) ?_
  refine z_iconst dX7_isBit_3 (n := 4) rfl ?_
  refine z_iand1 dX7_isBit_4 (n := 5) rfl (by first | assumption | omega) ?_
  refine z_iconst dX7_isBit_5 (n := 6) rfl ?_
  refine z_icmp_ne dX7_isBit_6 (n := 9) (tg := 13) rfl (by decide) (by first | assumption | exact ⟨by omega, by omega⟩ | exact zb_zr _) (by first | assumption | exact ⟨by omega, by omega⟩ | exact zb_zr _) (fun c6 => ?_) (fun c6 => ?_)
  · refine z_iconst dX7_isBit_13 (n := 14) rfl ?_
    refine z_ret_z dX7_isBit_14 rfl (by first | exact Or.inl rfl | exact Or.inr rfl | exact zb_or _) ?_
    first | exact ⟨(zb_t (by assumption)).symm, rfl⟩ | exact ⟨(zb_f (by assumption)).symm, rfl⟩
  · refine z_iconst dX7_isBit_9 (n := 10) rfl ?_
    refine z_goto dX7_isBit_10 (n := 14) (by decide) ?_
    refine z_ret_z dX7_isBit_14 rfl (by first | exact Or.inl rfl | exact Or.inr rfl | exact zb_or _) ?_
    first | exact ⟨(zb_t (by assumption)).symm, rfl⟩ | exact ⟨(zb_f (by assumption)).symm, rfl⟩
set_option maxHeartbeats 4000000 in
theorem c_X7_letter {G : zG} {sz : zSz} {ar : zAr} {c : Int} (hc : zr c) (hp0 : 0 ≤ sz 41 10) (hp1 : sz 41 10 ≤ 24)  : zSem G mX7_letter 1 [zR 41, zI c] (X sz ar) (zpi fun r u => (¬ (1 ≤ c ∧ c ≤ 126) ∧ r = -102 ∧ u = X sz ar) ∨ ((1 ≤ c ∧ c ≤ 126) ∧ sz 41 10 < 24 ∧ r = sz 41 10 + 1 ∧ u = X (zz sz 41 10 (sz 41 10 + 1)) (zq ar 49 (zf (ar 49) (sz 41 10) c))) ∨ ((1 ≤ c ∧ c ≤ 126) ∧ 24 ≤ sz 41 10 ∧ r = -104 ∧ u = X sz ar)) := by
  refine z_enter (L' := [some (zR 41), some (zI c)]) (by decide +kernel) (Nat.le_of_ble_eq_true rfl) ⟨0, rfl⟩ ?_
  refine z_iload_1 dX7_letter_0 (n := 1) rfl ?_
  refine z_iconst dX7_letter_1 (n := 2) rfl ?_
  refine z_bipush dX7_letter_2 (n := 4) rfl (by decide) ?_
  refine z_callS3i dX7_letter_4 (n := 7) rfl ms_X7_within lk_X7_69 (zrm (by decide) (by decide)) (Nat.le_of_ble_eq_true rfl) (c_X7_within (by first | assumption | exact ⟨by omega, by omega⟩ | exact zb_zr _) (by first | assumption | exact ⟨by omega, by omega⟩ | exact zb_zr _) (by first | assumption | exact ⟨by omega, by omega⟩ | exact zb_zr _)) (fun r u hp => ?_)
  obtain ⟨rfl, rfl⟩ := hp
  refine z_ifB_ne dX7_letter_7 (n := 10) (tg := 13) rfl (by decide) (fun c7 => ?_) (fun c7 => ?_)
  · refine z_aload_0 dX7_letter_13 (n := 14) rfl ?_
    refine z_get dX7_letter_14 (n := 17) rfl rfl fd_X7_73 rfl ?_
    refine z_bipush dX7_letter_17 (n := 19) rfl (by decide) ?_
    refine z_icmp_ne dX7_letter_19 (n := 22) (tg := 25) rfl (by decide) (by first | assumption | exact ⟨by omega, by omega⟩ | exact zb_zr _) (by first | assumption | exact ⟨by omega, by omega⟩ | exact zb_zr _) (fun c19 => ?_) (fun c19 => ?_)
    · refine z_aload_0 dX7_letter_25 (n := 26) rfl ?_
      refine z_get dX7_letter_26 (n := 29) rfl rfl fd_X7_32 rfl ?_
      refine z_aload_0 dX7_letter_29 (n := 30) rfl ?_
      refine z_get dX7_letter_30 (n := 33) rfl rfl fd_X7_73 rfl ?_
      refine z_iload_1 dX7_letter_33 (n := 34) rfl ?_
      refine z_iastX dX7_letter_34 (n := 35) rfl rfl (by omega) (by omega) (by decide) rfl ?_
      refine z_aload_0 dX7_letter_35 (n := 36) rfl ?_
      refine z_dup dX7_letter_36 (n := 37) rfl rfl ?_
      refine z_get dX7_letter_37 (n := 40) rfl rfl fd_X7_73 rfl ?_
      refine z_iconst dX7_letter_40 (n := 41) rfl ?_
      refine z_iadd dX7_letter_41 (n := 42) rfl ?_
      refine z_putX dX7_letter_42 (n := 45) rfl rfl fw_X7_73 (by first | decide | simp) rfl ?_
      refine z_aload_0 dX7_letter_45 (n := 46) rfl ?_
      refine z_get dX7_letter_46 (n := 49) rfl rfl fd_X7_73 rfl ?_
      refine z_ret_i dX7_letter_49 rfl ?_
      exact Or.inr (Or.inl ⟨c7, by omega, rfl, rfl⟩)
    · refine z_bipush dX7_letter_22 (n := 24) rfl (by decide) ?_
      refine z_ret_i dX7_letter_24 rfl ?_
      exact Or.inr (Or.inr ⟨c7, by omega, rfl, rfl⟩)
  · refine z_bipush dX7_letter_10 (n := 12) rfl (by decide) ?_
    refine z_ret_i dX7_letter_12 rfl ?_
    exact Or.inl ⟨c7, rfl, rfl⟩
set_option maxHeartbeats 4000000 in
theorem c_X7_blank {G : zG} {sz : zSz} {ar : zAr}  : zSem G mX7_blank 0 [zR 41] (X sz ar) (zpi fun r u => r = sz 41 10 ∧ u = X (zz sz 41 10 0) ar) := by
  refine z_enter (L' := [some (zR 41), none]) (by decide +kernel) (Nat.le_of_ble_eq_true rfl) ⟨1, rfl⟩ ?_
  refine z_aload_0 dX7_blank_0 (n := 1) rfl ?_
  refine z_get dX7_blank_1 (n := 4) rfl rfl fd_X7_73 rfl ?_
  refine z_istore_1 dX7_blank_4 (n := 5) rfl (by decide) (fun w h => by cases h; try rfl) ?_
  refine z_aload_0 dX7_blank_5 (n := 6) rfl ?_
  refine z_iconst dX7_blank_6 (n := 7) rfl ?_
  refine z_putX dX7_blank_7 (n := 10) rfl rfl fw_X7_73 (by first | decide | simp) rfl ?_
  refine z_iload_1 dX7_blank_10 (n := 11) rfl ?_
  refine z_ret_i dX7_blank_11 rfl ?_
  exact ⟨rfl, rfl⟩
set_option maxHeartbeats 4000000 in
theorem c_X7_kindBy {G : zG} {sz : zSz} {ar : zAr} {c : Int} (hc : zr c)  : zSem G mX7_kindBy 0 [zI c] (X sz ar) (zpi fun r u => r = kindB c ∧ u = X sz ar) := by
  refine z_enter (L' := [some (zI c)]) (by decide +kernel) (Nat.le_of_ble_eq_true rfl) ⟨0, rfl⟩ ?_
  refine z_iload_0 dX7_kindBy_0 (n := 1) rfl ?_
  refine z_by (102) (fun q1 => ?_) (fun q1_102 => ?_)
  · refine z_ls (off := 53) (tg := 54) dX7_kindBy_1 (by first | assumption | exact ⟨by omega, by omega⟩ | exact zb_zr _) (by decide) (by rw [q1]; rfl) (by decide) ?_
    refine z_iconst dX7_kindBy_54 (n := 55) rfl ?_
    refine z_ret_i dX7_kindBy_55 rfl ?_
    exact ⟨by rw [q1]; rfl, rfl⟩
  · skip
    refine z_by (111) (fun q1 => ?_) (fun q1_111 => ?_)
    · refine z_ls (off := 59) (tg := 60) dX7_kindBy_1 (by first | assumption | exact ⟨by omega, by omega⟩ | exact zb_zr _) (by decide) (by rw [q1]; rfl) (by decide) ?_
      refine z_iconst dX7_kindBy_60 (n := 61) rfl ?_
      refine z_ret_i dX7_kindBy_61 rfl ?_
      exact ⟨by rw [q1]; rfl, rfl⟩
    · skip
      refine z_by (114) (fun q1 => ?_) (fun q1_114 => ?_)
      · refine z_ls (off := 57) (tg := 58) dX7_kindBy_1 (by first | assumption | exact ⟨by omega, by omega⟩ | exact zb_zr _) (by decide) (by rw [q1]; rfl) (by decide) ?_
        refine z_iconst dX7_kindBy_58 (n := 59) rfl ?_
        refine z_ret_i dX7_kindBy_59 rfl ?_
        exact ⟨by rw [q1]; rfl, rfl⟩
      · skip
        refine z_by (115) (fun q1 => ?_) (fun q1_115 => ?_)
        · refine z_ls (off := 51) (tg := 52) dX7_kindBy_1 (by first | assumption | exact ⟨by omega, by omega⟩ | exact zb_zr _) (by decide) (by rw [q1]; rfl) (by decide) ?_
          refine z_iconst dX7_kindBy_52 (n := 53) rfl ?_
          refine z_ret_i dX7_kindBy_53 rfl ?_
          exact ⟨by rw [q1]; rfl, rfl⟩
        · skip
          refine z_by (119) (fun q1 => ?_) (fun q1_119 => ?_)
          · refine z_ls (off := 55) (tg := 56) dX7_kindBy_1 (by first | assumption | exact ⟨by omega, by omega⟩ | exact zb_zr _) (by decide) (by rw [q1]; rfl) (by decide) ?_
            refine z_iconst dX7_kindBy_56 (n := 57) rfl ?_
            refine z_ret_i dX7_kindBy_57 rfl ?_
            exact ⟨by rw [q1]; rfl, rfl⟩
          · skip
            refine z_ls (off := 61) (tg := 62) dX7_kindBy_1 (by first | assumption | exact ⟨by omega, by omega⟩ | exact zb_zr _) (by decide) (z_off_df (by simp; omega)) (by decide) ?_
            refine z_iconst dX7_kindBy_62 (n := 63) rfl ?_
            refine z_ret_i dX7_kindBy_63 rfl ?_
            exact ⟨by unfold kindB; rw [if_neg (by omega), if_neg (by omega), if_neg (by omega), if_neg (by omega), if_neg (by omega)], rfl⟩
set_option maxHeartbeats 4000000 in
theorem c_X7_fitsAt {G : zG} {sz : zSz} {ar : zAr} {i c : Int} (h0 : 0 ≤ i) (h1 : i ≤ 23) (hc : zr c)  : zSem G mX7_fitsAt 1 [zI i, zI c] (X sz ar) (zpi fun r u => r = zb (fitP i c) ∧ u = X sz ar) := by
  refine z_enter (L' := [some (zI i), some (zI c)]) (by decide +kernel) (Nat.le_of_ble_eq_true rfl) ⟨0, rfl⟩ ?_
  have hk := kindB_r c
  refine z_iload_0 dX7_fitsAt_0 (n := 1) rfl ?_
  refine z_iconst dX7_fitsAt_1 (n := 2) rfl ?_
  refine z_irem dX7_fitsAt_2 (n := 3) rfl (by omega) (by omega) (by omega) (by omega) ?_
  refine z_by (0) (fun q3 => ?_) (fun q3_0 => ?_)
  · refine z_ls (off := 25) (tg := 28) dX7_fitsAt_3 (by first | assumption | exact ⟨by omega, by omega⟩ | exact zb_zr _) (by decide) (by rw [q3]; rfl) (by decide) ?_
    refine z_iload_0 dX7_fitsAt_28 (n := 29) rfl ?_
    refine z_bipush dX7_fitsAt_29 (n := 31) rfl (by decide) ?_
    refine z_icmp_ge dX7_fitsAt_31 (n := 34) (tg := 46) rfl (by decide) (by first | assumption | exact ⟨by omega, by omega⟩ | exact zb_zr _) (by first | assumption | exact ⟨by omega, by omega⟩ | exact zb_zr _) (fun c31 => ?_) (fun c31 => ?_)
    · refine z_iconst dX7_fitsAt_46 (n := 47) rfl ?_
      refine z_ret_z dX7_fitsAt_47 rfl (by first | exact Or.inl rfl | exact Or.inr rfl | exact zb_or _) ?_
      first | exact ⟨(zb_t (by unfold fitP; omega)).symm, rfl⟩ | exact ⟨(zb_f (by unfold fitP; omega)).symm, rfl⟩
    · refine z_iload_1 dX7_fitsAt_34 (n := 35) rfl ?_
      refine z_callS1i dX7_fitsAt_35 (n := 38) rfl ms_X7_kindBy lk_X7_77 (zrm (by decide) (by decide)) (Nat.le_of_ble_eq_true rfl) (c_X7_kindBy (by first | assumption | exact ⟨by omega, by omega⟩ | exact zb_zr _)) (fun r u hp => ?_)
      obtain ⟨rfl, rfl⟩ := hp
      refine z_iconst dX7_fitsAt_38 (n := 39) rfl ?_
      refine z_icmp_eq dX7_fitsAt_39 (n := 42) (tg := 46) rfl (by decide) (by first | assumption | exact ⟨by omega, by omega⟩ | exact zb_zr _) (by first | assumption | exact ⟨by omega, by omega⟩ | exact zb_zr _) (fun c39 => ?_) (fun c39 => ?_)
      · refine z_iconst dX7_fitsAt_46 (n := 47) rfl ?_
        refine z_ret_z dX7_fitsAt_47 rfl (by first | exact Or.inl rfl | exact Or.inr rfl | exact zb_or _) ?_
        first | exact ⟨(zb_t (by unfold fitP; omega)).symm, rfl⟩ | exact ⟨(zb_f (by unfold fitP; omega)).symm, rfl⟩
      · refine z_iconst dX7_fitsAt_42 (n := 43) rfl ?_
        refine z_goto dX7_fitsAt_43 (n := 47) (by decide) ?_
        refine z_ret_z dX7_fitsAt_47 rfl (by first | exact Or.inl rfl | exact Or.inr rfl | exact zb_or _) ?_
        first | exact ⟨(zb_t (by unfold fitP; omega)).symm, rfl⟩ | exact ⟨(zb_f (by unfold fitP; omega)).symm, rfl⟩
  · skip
    refine z_by (3) (fun q3 => ?_) (fun q3_3 => ?_)
    · refine z_ls (off := 45) (tg := 48) dX7_fitsAt_3 (by first | assumption | exact ⟨by omega, by omega⟩ | exact zb_zr _) (by decide) (by rw [q3]; rfl) (by decide) ?_
      refine z_iload_0 dX7_fitsAt_48 (n := 49) rfl ?_
      refine z_bipush dX7_fitsAt_49 (n := 51) rfl (by decide) ?_
      refine z_icmp_ge dX7_fitsAt_51 (n := 54) (tg := 64) rfl (by decide) (by first | assumption | exact ⟨by omega, by omega⟩ | exact zb_zr _) (by first | assumption | exact ⟨by omega, by omega⟩ | exact zb_zr _) (fun c51 => ?_) (fun c51 => ?_)
      · refine z_iconst dX7_fitsAt_64 (n := 65) rfl ?_
        refine z_ret_z dX7_fitsAt_65 rfl (by first | exact Or.inl rfl | exact Or.inr rfl | exact zb_or _) ?_
        first | exact ⟨(zb_t (by unfold fitP; omega)).symm, rfl⟩ | exact ⟨(zb_f (by unfold fitP; omega)).symm, rfl⟩
      · refine z_iload_1 dX7_fitsAt_54 (n := 55) rfl ?_
        refine z_bipush dX7_fitsAt_55 (n := 57) rfl (by decide) ?_
        refine z_icmp_ne dX7_fitsAt_57 (n := 60) (tg := 64) rfl (by decide) (by first | assumption | exact ⟨by omega, by omega⟩ | exact zb_zr _) (by first | assumption | exact ⟨by omega, by omega⟩ | exact zb_zr _) (fun c57 => ?_) (fun c57 => ?_)
        · refine z_iconst dX7_fitsAt_64 (n := 65) rfl ?_
          refine z_ret_z dX7_fitsAt_65 rfl (by first | exact Or.inl rfl | exact Or.inr rfl | exact zb_or _) ?_
          first | exact ⟨(zb_t (by unfold fitP; omega)).symm, rfl⟩ | exact ⟨(zb_f (by unfold fitP; omega)).symm, rfl⟩
        · refine z_iconst dX7_fitsAt_60 (n := 61) rfl ?_
          refine z_goto dX7_fitsAt_61 (n := 65) (by decide) ?_
          refine z_ret_z dX7_fitsAt_65 rfl (by first | exact Or.inl rfl | exact Or.inr rfl | exact zb_or _) ?_
          first | exact ⟨(zb_t (by unfold fitP; omega)).symm, rfl⟩ | exact ⟨(zb_f (by unfold fitP; omega)).symm, rfl⟩
    · skip
      refine z_ls (off := 63) (tg := 66) dX7_fitsAt_3 (by first | assumption | exact ⟨by omega, by omega⟩ | exact zb_zr _) (by decide) (z_off_df (by simp; omega)) (by decide) ?_
      refine z_iload_1 dX7_fitsAt_66 (n := 67) rfl ?_
      refine z_bipush dX7_fitsAt_67 (n := 69) rfl (by decide) ?_
      refine z_icmp_eq dX7_fitsAt_69 (n := 72) (tg := 83) rfl (by decide) (by first | assumption | exact ⟨by omega, by omega⟩ | exact zb_zr _) (by first | assumption | exact ⟨by omega, by omega⟩ | exact zb_zr _) (fun c69 => ?_) (fun c69 => ?_)
      · refine z_iconst dX7_fitsAt_83 (n := 84) rfl ?_
        refine z_goto dX7_fitsAt_84 (n := 88) (by decide) ?_
        refine z_ret_z dX7_fitsAt_88 rfl (by first | exact Or.inl rfl | exact Or.inr rfl | exact zb_or _) ?_
        first | exact ⟨(zb_t (by unfold fitP; omega)).symm, rfl⟩ | exact ⟨(zb_f (by unfold fitP; omega)).symm, rfl⟩
      · refine z_iload_1 dX7_fitsAt_72 (n := 73) rfl ?_
        refine z_bipush dX7_fitsAt_73 (n := 75) rfl (by decide) ?_
        refine z_bipush dX7_fitsAt_75 (n := 77) rfl (by decide) ?_
        refine z_callS3i dX7_fitsAt_77 (n := 80) rfl ms_X7_within lk_X7_69 (zrm (by decide) (by decide)) (Nat.le_of_ble_eq_true rfl) (c_X7_within (by first | assumption | exact ⟨by omega, by omega⟩ | exact zb_zr _) (by first | assumption | exact ⟨by omega, by omega⟩ | exact zb_zr _) (by first | assumption | exact ⟨by omega, by omega⟩ | exact zb_zr _)) (fun r u hp => ?_)
        obtain ⟨rfl, rfl⟩ := hp
        refine z_ifB_eq dX7_fitsAt_80 (n := 83) (tg := 87) rfl (by decide) (fun c80 => ?_) (fun c80 => ?_)
        · refine z_iconst dX7_fitsAt_87 (n := 88) rfl ?_
          refine z_ret_z dX7_fitsAt_88 rfl (by first | exact Or.inl rfl | exact Or.inr rfl | exact zb_or _) ?_
          first | exact ⟨(zb_t (by unfold fitP; omega)).symm, rfl⟩ | exact ⟨(zb_f (by unfold fitP; omega)).symm, rfl⟩
        · refine z_iconst dX7_fitsAt_83 (n := 84) rfl ?_
          refine z_goto dX7_fitsAt_84 (n := 88) (by decide) ?_
          refine z_ret_z dX7_fitsAt_88 rfl (by first | exact Or.inl rfl | exact Or.inr rfl | exact zb_or _) ?_
          first | exact ⟨(zb_t (by unfold fitP; omega)).symm, rfl⟩ | exact ⟨(zb_f (by unfold fitP; omega)).symm, rfl⟩
set_option maxHeartbeats 4000000 in
theorem c_X7_fault {G : zG} {sz : zSz} {ar : zAr} (hp0 : 0 ≤ sz 41 10) (hp1 : sz 41 10 ≤ 24) (hc : ∀ i, 0 ≤ ar 49 i ∧ ar 49 i ≤ 126)  : zSem G mX7_fault 2 [zR 41] (X sz ar) (zpi fun r u => r = ffG (fun i => ¬ fitP i (ar 49 i)) (sz 41 10).toNat 0 ∧ u = X sz ar) := by
  refine z_enter (L' := [some (zR 41), none]) (by decide +kernel) (Nat.le_of_ble_eq_true rfl) ⟨1, rfl⟩ ?_
  have HO : ∀ (m : Nat) (j : Int), 0 ≤ j → j + m = sz 41 10 → zWP G mX7_fault 2 (zpi fun r u => r = ffG (fun i => ¬ fitP i (ar 49 i)) m j ∧ u = X sz ar) 2 [some (zR 41), some (zI j)] [] (X sz ar) := by
    intro m
    induction m with
    | zero =>
      intro j hj0 hj
      refine z_iload_1 dX7_fault_2 (n := 3) rfl ?_
      refine z_aload_0 dX7_fault_3 (n := 4) rfl ?_
      refine z_get dX7_fault_4 (n := 7) rfl rfl fd_X7_73 rfl ?_
      refine z_icmp_ge dX7_fault_7 (n := 10) (tg := 29) rfl (by decide) (by first | assumption | exact ⟨by omega, by omega⟩ | exact zb_zr _) (by first | assumption | exact ⟨by omega, by omega⟩ | exact zb_zr _) (fun c7 => ?_) (fun c7 => ?_)
      · refine z_iload_1 dX7_fault_29 (n := 30) rfl ?_
        refine z_ret_i dX7_fault_30 rfl ?_
        exact ⟨rfl, rfl⟩
      · exfalso; omega
    | succ m ih =>
      intro j hj0 hj
      have hcj := hc j
      have h9 := ih (j + 1) (by omega) (by omega)
      refine z_iload_1 dX7_fault_2 (n := 3) rfl ?_
      refine z_aload_0 dX7_fault_3 (n := 4) rfl ?_
      refine z_get dX7_fault_4 (n := 7) rfl rfl fd_X7_73 rfl ?_
      refine z_icmp_ge dX7_fault_7 (n := 10) (tg := 29) rfl (by decide) (by first | assumption | exact ⟨by omega, by omega⟩ | exact zb_zr _) (by first | assumption | exact ⟨by omega, by omega⟩ | exact zb_zr _) (fun c7 => ?_) (fun c7 => ?_)
      · exfalso; omega
      · refine z_iload_1 dX7_fault_10 (n := 11) rfl ?_
        refine z_aload_0 dX7_fault_11 (n := 12) rfl ?_
        refine z_get dX7_fault_12 (n := 15) rfl rfl fd_X7_32 rfl ?_
        refine z_iload_1 dX7_fault_15 (n := 16) rfl ?_
        refine z_iald dX7_fault_16 (n := 17) rfl rfl (by omega) (by omega) (by decide) ?_
        refine z_callS2i dX7_fault_17 (n := 20) rfl ms_X7_fitsAt lk_X7_81 (zrm (by decide) (by decide)) (Nat.le_of_ble_eq_true rfl) (c_X7_fitsAt (by omega) (by omega) (by first | assumption | exact ⟨by omega, by omega⟩ | exact zb_zr _)) (fun r u hp => ?_)
        obtain ⟨rfl, rfl⟩ := hp
        refine z_ifB_eq dX7_fault_20 (n := 23) (tg := 29) rfl (by decide) (fun c20 => ?_) (fun c20 => ?_)
        · refine z_iload_1 dX7_fault_29 (n := 30) rfl ?_
          refine z_ret_i dX7_fault_30 rfl ?_
          exact ⟨(ffG_t (p := fun i => ¬ fitP i (ar 49 i)) c20).symm, rfl⟩
        · refine z_iinc_1 dX7_fault_23 (n := 26) rfl (by decide) (fun w h => by cases h; try rfl) ?_
          refine z_goto dX7_fault_26 (n := 2) (by decide) ?_
          rw [ffG_f (p := fun i => ¬ fitP i (ar 49 i)) (fun z => z c20)]
          exact h9
  refine z_iconst dX7_fault_0 (n := 1) rfl ?_
  refine z_istore_1 dX7_fault_1 (n := 2) rfl (by decide) (fun w h => by cases h; try rfl) ?_
  exact HO (sz 41 10).toNat 0 (by omega) (by omega)
def aimR (c : Int) : Int := if c = 45 then -1 else c - 48
theorem aimR_r {c : Int} (h : 0 ≤ c ∧ c ≤ 126) : -48 ≤ aimR c ∧ aimR c ≤ 78 := by unfold aimR; split <;> omega
theorem aimR_n {i c : Int} (h : fitP i c) (h1 : i % 4 = 1 ∨ i % 4 = 2) : aimR c = nxt c := by
  unfold fitP at h
  unfold aimR nxt
  by_cases e : c = 45
  · rw [if_pos e, if_neg (by omega)]
  · rw [if_neg e, if_pos (by omega)]
set_option maxHeartbeats 4000000 in
theorem c_X7_aimOf {G : zG} {sz : zSz} {ar : zAr} {c : Int} (hc : 0 ≤ c ∧ c ≤ 126)  : zSem G mX7_aimOf 0 [zI c] (X sz ar) (zpi fun r u => r = aimR c ∧ u = X sz ar) := by
  refine z_enter (L' := [some (zI c)]) (by decide +kernel) (Nat.le_of_ble_eq_true rfl) ⟨0, rfl⟩ ?_
  refine z_iload_0 dX7_aimOf_0 (n := 1) rfl ?_
  refine z_bipush dX7_aimOf_1 (n := 3) rfl (by decide) ?_
  refine z_icmp_ne dX7_aimOf_3 (n := 6) (tg := 10) rfl (by decide) (by first | assumption | exact ⟨by omega, by omega⟩ | exact zb_zr _) (by first | assumption | exact ⟨by omega, by omega⟩ | exact zb_zr _) (fun c3 => ?_) (fun c3 => ?_)
  · rw [show aimR c = c - 48 from if_neg c3]
    refine z_iload_0 dX7_aimOf_10 (n := 11) rfl ?_
    refine z_bipush dX7_aimOf_11 (n := 13) rfl (by decide) ?_
    refine z_isub dX7_aimOf_13 (n := 14) rfl ?_
    refine z_ret_i dX7_aimOf_14 rfl ?_
    exact ⟨rfl, rfl⟩
  · rw [show aimR c = -1 from if_pos c3]
    refine z_iconst dX7_aimOf_6 (n := 7) rfl ?_
    refine z_goto dX7_aimOf_7 (n := 14) (by decide) ?_
    refine z_ret_i dX7_aimOf_14 rfl ?_
    exact ⟨rfl, rfl⟩
def aimP (q : Int) (c : Int → Int) (k : Int) : Prop := ∀ i, 0 ≤ i → i < k → aimR (c (4 * i + 1)) < q ∧ aimR (c (4 * i + 2)) < q
set_option maxHeartbeats 4000000 in
theorem c_X7_isAimed {G : zG} {sz : zSz} {ar : zAr} {q : Int} (hq0 : 0 ≤ q) (hq1 : q ≤ 6) (hc : ∀ i, 0 ≤ ar 49 i ∧ ar 49 i ≤ 126)  : zSem G mX7_isAimed 1 [zR 41, zI q] (X sz ar) (zpi fun r u => r = zb (aimP q (ar 49) q) ∧ u = X sz ar) := by
  refine z_enter (L' := [some (zR 41), some (zI q), none, none]) (by decide +kernel) (Nat.le_of_ble_eq_true rfl) ⟨2, rfl⟩ ?_
  have HO : ∀ (m : Nat) (k : Int), 0 ≤ k → k + m = q → zWP G mX7_isAimed 1 (zpi fun r u => r = zb (aimP q (ar 49) q) ∧ u = X sz ar) 4 [some (zR 41), some (zI q), some (zI (zb (aimP q (ar 49) k))), some (zI k)] [] (X sz ar) := by
    intro m
    induction m with
    | zero =>
      intro k hk0 hk
      have ek : k = q := by omega
      subst ek
      refine z_iload_3 dX7_isAimed_4 (n := 5) rfl ?_
      refine z_iload_1 dX7_isAimed_5 (n := 6) rfl ?_
      refine z_icmp_ge dX7_isAimed_6 (n := 9) (tg := 59) rfl (by decide) (by first | assumption | exact ⟨by omega, by omega⟩ | exact zb_zr _) (by first | assumption | exact ⟨by omega, by omega⟩ | exact zb_zr _) (fun c6 => ?_) (fun c6 => ?_)
      · refine z_iload_2 dX7_isAimed_59 (n := 60) rfl ?_
        refine z_ret_z dX7_isAimed_60 rfl (by first | exact Or.inl rfl | exact Or.inr rfl | exact zb_or _) ?_
        exact ⟨rfl, rfl⟩
      · exfalso; omega
    | succ m ih =>
      intro k hk0 hk
      have h9 := ih (k + 1) (by omega) (by omega)
      have m1 := aimR_r (hc (4 * k + 1))
      have m2 := aimR_r (hc (4 * k + 2))
      refine z_iload_3 dX7_isAimed_4 (n := 5) rfl ?_
      refine z_iload_1 dX7_isAimed_5 (n := 6) rfl ?_
      refine z_icmp_ge dX7_isAimed_6 (n := 9) (tg := 59) rfl (by decide) (by first | assumption | exact ⟨by omega, by omega⟩ | exact zb_zr _) (by first | assumption | exact ⟨by omega, by omega⟩ | exact zb_zr _) (fun c6 => ?_) (fun c6 => ?_)
      · exfalso; omega
      · refine z_iload_2 dX7_isAimed_9 (n := 10) rfl ?_
        refine z_ifB_eq dX7_isAimed_10 (n := 13) (tg := 51) rfl (by decide) (fun c10 => ?_) (fun c10 => ?_)
        · rw [zb_f (p := aimP q (ar 49) (k + 1)) (fun z => c10 (fun i a b => z i a (by omega)))] at h9
          refine z_iconst dX7_isAimed_51 (n := 52) rfl ?_
          refine z_istore_2 dX7_isAimed_52 (n := 53) rfl (by decide) (fun w h => by cases h; try rfl) ?_
          refine z_iinc_3 dX7_isAimed_53 (n := 56) rfl (by decide) (fun w h => by cases h; try rfl) ?_
          refine z_goto dX7_isAimed_56 (n := 4) (by decide) ?_
          exact h9
        · refine z_aload_0 dX7_isAimed_13 (n := 14) rfl ?_
          refine z_get dX7_isAimed_14 (n := 17) rfl rfl fd_X7_32 rfl ?_
          refine z_iconst dX7_isAimed_17 (n := 18) rfl ?_
          refine z_iload_3 dX7_isAimed_18 (n := 19) rfl ?_
          refine z_imul dX7_isAimed_19 (n := 20) rfl ?_
          refine z_iconst dX7_isAimed_20 (n := 21) rfl ?_
          refine z_iadd dX7_isAimed_21 (n := 22) rfl ?_
          refine z_iald dX7_isAimed_22 (n := 23) rfl rfl (by omega) (by omega) (by decide) ?_
          refine z_callS1i dX7_isAimed_23 (n := 26) rfl ms_X7_aimOf lk_X7_85 (zrm (by decide) (by decide)) (Nat.le_of_ble_eq_true rfl) (c_X7_aimOf (hc _)) (fun r u hp => ?_)
          obtain ⟨rfl, rfl⟩ := hp
          refine z_iload_1 dX7_isAimed_26 (n := 27) rfl ?_
          refine z_icmp_ge dX7_isAimed_27 (n := 30) (tg := 51) rfl (by decide) (by first | assumption | exact ⟨by omega, by omega⟩ | exact zb_zr _) (by first | assumption | exact ⟨by omega, by omega⟩ | exact zb_zr _) (fun c27 => ?_) (fun c27 => ?_)
          · rw [zb_f (p := aimP q (ar 49) (k + 1)) (fun z => by have := z k hk0 (by omega); omega)] at h9
            refine z_iconst dX7_isAimed_51 (n := 52) rfl ?_
            refine z_istore_2 dX7_isAimed_52 (n := 53) rfl (by decide) (fun w h => by cases h; try rfl) ?_
            refine z_iinc_3 dX7_isAimed_53 (n := 56) rfl (by decide) (fun w h => by cases h; try rfl) ?_
            refine z_goto dX7_isAimed_56 (n := 4) (by decide) ?_
            exact h9
          · refine z_aload_0 dX7_isAimed_30 (n := 31) rfl ?_
            refine z_get dX7_isAimed_31 (n := 34) rfl rfl fd_X7_32 rfl ?_
            refine z_iconst dX7_isAimed_34 (n := 35) rfl ?_
            refine z_iload_3 dX7_isAimed_35 (n := 36) rfl ?_
            refine z_imul dX7_isAimed_36 (n := 37) rfl ?_
            refine z_iconst dX7_isAimed_37 (n := 38) rfl ?_
            refine z_iadd dX7_isAimed_38 (n := 39) rfl ?_
            refine z_iald dX7_isAimed_39 (n := 40) rfl rfl (by omega) (by omega) (by decide) ?_
            refine z_callS1i dX7_isAimed_40 (n := 43) rfl ms_X7_aimOf lk_X7_85 (zrm (by decide) (by decide)) (Nat.le_of_ble_eq_true rfl) (c_X7_aimOf (hc _)) (fun r u hp => ?_)
            obtain ⟨rfl, rfl⟩ := hp
            refine z_iload_1 dX7_isAimed_43 (n := 44) rfl ?_
            refine z_icmp_ge dX7_isAimed_44 (n := 47) (tg := 51) rfl (by decide) (by first | assumption | exact ⟨by omega, by omega⟩ | exact zb_zr _) (by first | assumption | exact ⟨by omega, by omega⟩ | exact zb_zr _) (fun c44 => ?_) (fun c44 => ?_)
            · rw [zb_f (p := aimP q (ar 49) (k + 1)) (fun z => by have := z k hk0 (by omega); omega)] at h9
              refine z_iconst dX7_isAimed_51 (n := 52) rfl ?_
              refine z_istore_2 dX7_isAimed_52 (n := 53) rfl (by decide) (fun w h => by cases h; try rfl) ?_
              refine z_iinc_3 dX7_isAimed_53 (n := 56) rfl (by decide) (fun w h => by cases h; try rfl) ?_
              refine z_goto dX7_isAimed_56 (n := 4) (by decide) ?_
              exact h9
            · rw [zb_t (p := aimP q (ar 49) (k + 1)) (fun i a b => by by_cases e : i = k; (rw [e]; exact ⟨by omega, by omega⟩); exact c10 i a (by omega))] at h9
              refine z_iconst dX7_isAimed_47 (n := 48) rfl ?_
              refine z_goto dX7_isAimed_48 (n := 52) (by decide) ?_
              refine z_istore_2 dX7_isAimed_52 (n := 53) rfl (by decide) (fun w h => by cases h; try rfl) ?_
              refine z_iinc_3 dX7_isAimed_53 (n := 56) rfl (by decide) (fun w h => by cases h; try rfl) ?_
              refine z_goto dX7_isAimed_56 (n := 4) (by decide) ?_
              exact h9
  have h8 := HO q.toNat 0 (by omega) (by omega)
  rw [zb_t (p := aimP q (ar 49) 0) (fun i a b => by omega)] at h8
  refine z_iconst dX7_isAimed_0 (n := 1) rfl ?_
  refine z_istore_2 dX7_isAimed_1 (n := 2) rfl (by decide) (fun w h => by cases h; try rfl) ?_
  refine z_iconst dX7_isAimed_2 (n := 3) rfl ?_
  refine z_istore_3 dX7_isAimed_3 (n := 4) rfl (by decide) (fun w h => by cases h; try rfl) ?_
  exact h8
def PMr (sz : zSz) (ar : zAr) (q : Int) (u : zS) : Prop := ∃ sz' ar', u = X sz' ar' ∧ sz' 41 0 = q ∧ sz' 41 10 = 0 ∧ sz' 41 6 = 0 ∧ sz' 41 3 = sz 41 3 + 1 ∧ ar' 42 = rdK (ar 49) q (ar 42) ∧ ar' 43 = rdN (ar 49) q (ar 43) ∧ (∀ w, 0 ≤ w → w < 3 → ar' 44 w = 0) ∧ (∀ j, j ≠ 41 → sz' j = sz j) ∧ (∀ i, i ≠ 0 → i ≠ 10 → i ≠ 6 → i ≠ 3 → sz' 41 i = sz 41 i) ∧ ∀ j, j ≠ 42 → j ≠ 43 → j ≠ 44 → ar' j = ar j
set_option maxHeartbeats 4000000 in
theorem l2_X7_machine {G : zG} {sz : zSz} {ar : zAr} {q : Int} (hM : isM (sz 41 10) (ar 49)) :
    ∀ (m w : Nat) (ar' : zAr), w + m = 3 → ar' 42 = rdK (ar 49) q (ar 42) → ar' 43 = rdN (ar 49) q (ar 43) → (∀ j : Int, 0 ≤ j → j < w → ar' 44 j = 0) → (∀ j, j ≠ 42 → j ≠ 43 → j ≠ 44 → ar' j = ar j) →
    zWP G mX7_machine 3 (zpi fun r u => (¬ isM (sz 41 10) (ar 49) ∧ r = -103 ∧ u = X sz ar) ∨ (isM (sz 41 10) (ar 49) ∧ r = q ∧ PMr sz ar q u)) 122 [some (zR 41), some (zI q), some (zI w)] [] (X (zz sz 41 0 q) ar') := by
  intro m
  induction m with
  | zero =>
    intro w ar' hw h42 h43 h44 hF
    refine z_iload_2 dX7_machine_122 (n := 123) rfl ?_
    refine z_iconst dX7_machine_123 (n := 124) rfl ?_
    refine z_icmp_ge dX7_machine_124 (n := 127) (tg := 140) rfl (by decide) (by first | assumption | exact ⟨by omega, by omega⟩ | exact zb_zr _) (by first | assumption | exact ⟨by omega, by omega⟩ | exact zb_zr _) (fun c124 => ?_) (fun c124 => ?_)
    · refine z_aload_0 dX7_machine_140 (n := 141) rfl ?_
      refine z_iconst dX7_machine_141 (n := 142) rfl ?_
      refine z_putX dX7_machine_142 (n := 145) rfl rfl fw_X7_99 (by first | decide | simp) rfl ?_
      refine z_aload_0 dX7_machine_145 (n := 146) rfl ?_
      refine z_dup dX7_machine_146 (n := 147) rfl rfl ?_
      refine z_get dX7_machine_147 (n := 150) rfl rfl fd_X7_102 rfl ?_
      refine z_iconst dX7_machine_150 (n := 151) rfl ?_
      refine z_iadd dX7_machine_151 (n := 152) rfl ?_
      refine z_putX dX7_machine_152 (n := 155) rfl rfl fw_X7_102 (by first | decide | simp) rfl ?_
      refine z_aload_0 dX7_machine_155 (n := 156) rfl ?_
      refine z_iconst dX7_machine_156 (n := 157) rfl ?_
      refine z_putX dX7_machine_157 (n := 160) rfl rfl fw_X7_73 (by first | decide | simp) rfl ?_
      refine z_iload_1 dX7_machine_160 (n := 161) rfl ?_
      refine z_ret_i dX7_machine_161 rfl ?_
      refine Or.inr ⟨hM, rfl, _, _, rfl, rfl, rfl, rfl, rfl, h42, h43, fun j a b => h44 j a (by omega), fun j hj => ?_, fun i a b c d => ?_, hF⟩
      · rw [zz_ne hj, zz_ne hj, zz_ne hj, zz_ne hj]
      · rw [zz_ni b, zz_ni d, zz_ni c, zz_ni a]
    · exfalso; omega
  | succ m ih =>
    intro w ar' hw h42 h43 h44 hF
    refine z_iload_2 dX7_machine_122 (n := 123) rfl ?_
    refine z_iconst dX7_machine_123 (n := 124) rfl ?_
    refine z_icmp_ge dX7_machine_124 (n := 127) (tg := 140) rfl (by decide) (by first | assumption | exact ⟨by omega, by omega⟩ | exact zb_zr _) (by first | assumption | exact ⟨by omega, by omega⟩ | exact zb_zr _) (fun c124 => ?_) (fun c124 => ?_)
    · exfalso; omega
    · refine z_aload_0 dX7_machine_127 (n := 128) rfl ?_
      refine z_get dX7_machine_128 (n := 131) rfl rfl fd_X7_16 rfl ?_
      refine z_iload_2 dX7_machine_131 (n := 132) rfl ?_
      refine z_iconst dX7_machine_132 (n := 133) rfl ?_
      refine z_iastX dX7_machine_133 (n := 134) rfl rfl (by omega) (by omega) (by decide) rfl ?_
      refine z_iinc_2 dX7_machine_134 (n := 137) rfl (by decide) (fun w h => by cases h; try rfl) ?_
      refine z_goto dX7_machine_137 (n := 122) (by decide) ?_
      have h9 := ih (w + 1) (zq ar' 44 (zf (ar' 44) w 0)) (by omega) h42 h43 (fun j a b => by rw [zq_eq]; by_cases e : j = w; (rw [e, zf_eq]); (rw [zf_ne e]; exact h44 j a (by omega))) (fun j a b c => (zq_ne c).trans (hF j a b c))
      rw [show ((w + 1 : Nat) : Int) = (w : Int) + 1 by omega] at h9
      exact h9
set_option maxHeartbeats 4000000 in
theorem l1_X7_machine {G : zG} {sz : zSz} {ar : zAr} {q : Int} (hM : isM (sz 41 10) (ar 49)) (hq : 4 * q = sz 41 10 + 1) (hp1 : sz 41 10 ≤ 24) (hc : ∀ i, 0 ≤ ar 49 i ∧ ar 49 i ≤ 126) (ha : ∀ i, 0 ≤ i → i < q → aimR (ar 49 (4 * i + 1)) = nxt (ar 49 (4 * i + 1)) ∧ aimR (ar 49 (4 * i + 2)) = nxt (ar 49 (4 * i + 2))) :
    ∀ (m : Nat) (k : Int) (ar' : zAr), 0 ≤ k → k + m = q → ar' 42 = rdK (ar 49) k (ar 42) → ar' 43 = rdN (ar 49) k (ar 43) → (∀ j, j ≠ 42 → j ≠ 43 → ar' j = ar j) →
    zWP G mX7_machine 3 (zpi fun r u => (¬ isM (sz 41 10) (ar 49) ∧ r = -103 ∧ u = X sz ar) ∨ (isM (sz 41 10) (ar 49) ∧ r = q ∧ PMr sz ar q u)) 43 [some (zR 41), some (zI q), some (zI k)] [] (X sz ar') := by
  intro m
  induction m with
  | zero =>
    intro k ar' hk0 hk h42 h43 hF
    have ek : k = q := by omega
    subst ek
    refine z_iload_2 dX7_machine_43 (n := 44) rfl ?_
    refine z_iload_1 dX7_machine_44 (n := 45) rfl ?_
    refine z_icmp_ge dX7_machine_45 (n := 48) (tg := 115) rfl (by decide) (by first | assumption | exact ⟨by omega, by omega⟩ | exact zb_zr _) (by first | assumption | exact ⟨by omega, by omega⟩ | exact zb_zr _) (fun c45 => ?_) (fun c45 => ?_)
    · refine z_aload_0 dX7_machine_115 (n := 116) rfl ?_
      refine z_iload_1 dX7_machine_116 (n := 117) rfl ?_
      refine z_putX dX7_machine_117 (n := 120) rfl rfl fw_X7_96 (by first | decide | simp) rfl ?_
      refine z_iconst dX7_machine_120 (n := 121) rfl ?_
      refine z_istore_2 dX7_machine_121 (n := 122) rfl (by decide) (fun w h => by cases h; try rfl) ?_
      exact l2_X7_machine hM 3 0 ar' (by omega) h42 h43 (fun j a b => by omega) (fun j a b c => hF j a b)
    · exfalso; omega
  | succ m ih =>
    intro k ar' hk0 hk h42 h43 hF
    have e49 : ar' 49 = ar 49 := hF 49 (by decide) (by decide)
    have hak := ha k hk0 (by omega)
    have hc0 := hc (4 * k)
    refine z_iload_2 dX7_machine_43 (n := 44) rfl ?_
    refine z_iload_1 dX7_machine_44 (n := 45) rfl ?_
    refine z_icmp_ge dX7_machine_45 (n := 48) (tg := 115) rfl (by decide) (by first | assumption | exact ⟨by omega, by omega⟩ | exact zb_zr _) (by first | assumption | exact ⟨by omega, by omega⟩ | exact zb_zr _) (fun c45 => ?_) (fun c45 => ?_)
    · exfalso; omega
    · refine z_aload_0 dX7_machine_48 (n := 49) rfl ?_
      refine z_get dX7_machine_49 (n := 52) rfl rfl fd_X7_7 rfl ?_
      refine z_iload_2 dX7_machine_52 (n := 53) rfl ?_
      refine z_aload_0 dX7_machine_53 (n := 54) rfl ?_
      refine z_get dX7_machine_54 (n := 57) rfl rfl fd_X7_32 rfl ?_
      refine z_iconst dX7_machine_57 (n := 58) rfl ?_
      refine z_iload_2 dX7_machine_58 (n := 59) rfl ?_
      refine z_imul dX7_machine_59 (n := 60) rfl ?_
      refine z_iald dX7_machine_60 (n := 61) rfl rfl (by omega) (by omega) (by decide) ?_
      rw [e49]
      refine z_callS1i dX7_machine_61 (n := 64) rfl ms_X7_kindBy lk_X7_77 (zrm (by decide) (by decide)) (Nat.le_of_ble_eq_true rfl) (c_X7_kindBy (by first | assumption | exact ⟨by omega, by omega⟩ | exact zb_zr _)) (fun r u hp => ?_)
      obtain ⟨rfl, rfl⟩ := hp
      refine z_iastX dX7_machine_64 (n := 65) rfl rfl (by omega) (by omega) (by decide) rfl ?_
      refine z_aload_0 dX7_machine_65 (n := 66) rfl ?_
      refine z_get dX7_machine_66 (n := 69) rfl rfl fd_X7_13 rfl ?_
      refine z_iconst dX7_machine_69 (n := 70) rfl ?_
      refine z_iload_2 dX7_machine_70 (n := 71) rfl ?_
      refine z_imul dX7_machine_71 (n := 72) rfl ?_
      refine z_aload_0 dX7_machine_72 (n := 73) rfl ?_
      refine z_get dX7_machine_73 (n := 76) rfl rfl fd_X7_32 rfl ?_
      refine z_iconst dX7_machine_76 (n := 77) rfl ?_
      refine z_iload_2 dX7_machine_77 (n := 78) rfl ?_
      refine z_imul dX7_machine_78 (n := 79) rfl ?_
      refine z_iconst dX7_machine_79 (n := 80) rfl ?_
      refine z_iadd dX7_machine_80 (n := 81) rfl ?_
      refine z_iald dX7_machine_81 (n := 82) rfl rfl (by omega) (by omega) (by decide) ?_
      rw [zq_ne (by decide), e49]
      refine z_callS1i dX7_machine_82 (n := 85) rfl ms_X7_aimOf lk_X7_85 (zrm (by decide) (by decide)) (Nat.le_of_ble_eq_true rfl) (c_X7_aimOf (hc _)) (fun r u hp => ?_)
      obtain ⟨rfl, rfl⟩ := hp
      rw [hak.1]
      refine z_iastX dX7_machine_85 (n := 86) rfl rfl (by omega) (by omega) (by decide) rfl ?_
      refine z_aload_0 dX7_machine_86 (n := 87) rfl ?_
      refine z_get dX7_machine_87 (n := 90) rfl rfl fd_X7_13 rfl ?_
      refine z_iconst dX7_machine_90 (n := 91) rfl ?_
      refine z_iload_2 dX7_machine_91 (n := 92) rfl ?_
      refine z_imul dX7_machine_92 (n := 93) rfl ?_
      refine z_iconst dX7_machine_93 (n := 94) rfl ?_
      refine z_iadd dX7_machine_94 (n := 95) rfl ?_
      refine z_aload_0 dX7_machine_95 (n := 96) rfl ?_
      refine z_get dX7_machine_96 (n := 99) rfl rfl fd_X7_32 rfl ?_
      refine z_iconst dX7_machine_99 (n := 100) rfl ?_
      refine z_iload_2 dX7_machine_100 (n := 101) rfl ?_
      refine z_imul dX7_machine_101 (n := 102) rfl ?_
      refine z_iconst dX7_machine_102 (n := 103) rfl ?_
      refine z_iadd dX7_machine_103 (n := 104) rfl ?_
      refine z_iald dX7_machine_104 (n := 105) rfl rfl (by omega) (by omega) (by decide) ?_
      rw [zq_ne (by decide), zq_ne (by decide), e49]
      refine z_callS1i dX7_machine_105 (n := 108) rfl ms_X7_aimOf lk_X7_85 (zrm (by decide) (by decide)) (Nat.le_of_ble_eq_true rfl) (c_X7_aimOf (hc _)) (fun r u hp => ?_)
      obtain ⟨rfl, rfl⟩ := hp
      rw [hak.2]
      refine z_iastX dX7_machine_108 (n := 109) rfl rfl (by omega) (by omega) (by decide) rfl ?_
      refine z_iinc_2 dX7_machine_109 (n := 112) rfl (by decide) (fun w h => by cases h; try rfl) ?_
      refine z_goto dX7_machine_112 (n := 43) (by decide) ?_
      refine ih (k + 1) _ (by omega) (by omega) ?_ ?_ ?_
      · rw [zq_ne (by decide), zq_ne (by decide), zq_eq, h42]; exact rdK_s hk0
      · rw [zq_eq, zq_eq, zq_ne (by decide), h43]; have h7 := rdN_s (c := ar 49) (old := ar 43) hk0; rw [show 2 * k + 0 = 2 * k by omega, show 4 * k + 1 + 0 = 4 * k + 1 by omega, show 4 * k + 1 + 1 = 4 * k + 2 by omega] at h7; exact h7
      · intro j a b; rw [zq_ne b, zq_ne b, zq_ne a]; exact hF j a b
set_option maxHeartbeats 4000000 in
theorem c_X7_machine {G : zG} {sz : zSz} {ar : zAr} (hp0 : 0 ≤ sz 41 10) (hp1 : sz 41 10 ≤ 24) (hc : ∀ i, 0 ≤ ar 49 i ∧ ar 49 i ≤ 126)  : zSem G mX7_machine 3 [zR 41] (X sz ar) (zpi fun r u => (¬ isM (sz 41 10) (ar 49) ∧ r = -103 ∧ u = X sz ar) ∨ (isM (sz 41 10) (ar 49) ∧ r = (sz 41 10 + 1) / 4 ∧ PMr sz ar ((sz 41 10 + 1) / 4) u)) := by
  refine z_enter (L' := [some (zR 41), none, none]) (by decide +kernel) (Nat.le_of_ble_eq_true rfl) ⟨2, rfl⟩ ?_
  have hff := ffG_r (fun i => ¬ fitP i (ar 49 i)) (sz 41 10).toNat 0
  have ha : ¬ ffG (fun i => ¬ fitP i (ar 49 i)) (sz 41 10).toNat 0 < sz 41 10 → sz 41 10 % 4 = 3 → ∀ i, 0 ≤ i → i < (sz 41 10 + 1) / 4 → aimR (ar 49 (4 * i + 1)) = nxt (ar 49 (4 * i + 1)) ∧ aimR (ar 49 (4 * i + 2)) = nxt (ar 49 (4 * i + 2)) := fun h h3 i a b =>
    ⟨aimR_n (i := 4 * i + 1) (Classical.byContradiction (hff.2.2.2 (4 * i + 1) (by omega) (by omega))) (by omega), aimR_n (i := 4 * i + 2) (Classical.byContradiction (hff.2.2.2 (4 * i + 2) (by omega) (by omega))) (by omega)⟩
  refine z_aload_0 dX7_machine_0 (n := 1) rfl ?_
  refine z_get dX7_machine_1 (n := 4) rfl rfl fd_X7_73 rfl ?_
  refine z_iconst dX7_machine_4 (n := 5) rfl ?_
  refine z_iadd dX7_machine_5 (n := 6) rfl ?_
  refine z_iconst dX7_machine_6 (n := 7) rfl ?_
  refine z_idiv dX7_machine_7 (n := 8) rfl (by omega) (by omega) (by omega) (by omega) ?_
  refine z_istore_1 dX7_machine_8 (n := 9) rfl (by decide) (fun w h => by cases h; try rfl) ?_
  refine z_aload_0 dX7_machine_9 (n := 10) rfl ?_
  refine z_callV0i dX7_machine_10 (n := 13) rfl mv_X7_fault lk_X7_88 rfl (zrm (by decide) (by decide)) (Nat.le_of_ble_eq_true rfl) (c_X7_fault (by omega) (by omega) hc) (fun r u hp => ?_)
  obtain ⟨rfl, rfl⟩ := hp
  have hff := ffG_r (fun i => ¬ fitP i (ar 49 i)) (sz 41 10).toNat 0
  refine z_aload_0 dX7_machine_13 (n := 14) rfl ?_
  refine z_get dX7_machine_14 (n := 17) rfl rfl fd_X7_73 rfl ?_
  refine z_icmp_lt dX7_machine_17 (n := 20) (tg := 38) rfl (by decide) (by first | assumption | exact ⟨by omega, by omega⟩ | exact zb_zr _) (by first | assumption | exact ⟨by omega, by omega⟩ | exact zb_zr _) (fun c17 => ?_) (fun c17 => ?_)
  · refine z_wk (P := fun r u => ¬ isM (sz 41 10) (ar 49) ∧ r = -103 ∧ u = X sz ar) ?_ (fun x v h => Or.inl h)
    have hno : ¬ isM (sz 41 10) (ar 49) := fun z => z.2.1 c17
    refine z_bipush dX7_machine_38 (n := 40) rfl (by decide) ?_
    refine z_ret_i dX7_machine_40 rfl ?_
    exact ⟨hno, rfl, rfl⟩
  · refine z_aload_0 dX7_machine_20 (n := 21) rfl ?_
    refine z_get dX7_machine_21 (n := 24) rfl rfl fd_X7_73 rfl ?_
    refine z_iconst dX7_machine_24 (n := 25) rfl ?_
    refine z_irem dX7_machine_25 (n := 26) rfl (by omega) (by omega) (by omega) (by omega) ?_
    refine z_iconst dX7_machine_26 (n := 27) rfl ?_
    refine z_icmp_ne dX7_machine_27 (n := 30) (tg := 38) rfl (by decide) (by first | assumption | exact ⟨by omega, by omega⟩ | exact zb_zr _) (by first | assumption | exact ⟨by omega, by omega⟩ | exact zb_zr _) (fun c27 => ?_) (fun c27 => ?_)
    · refine z_wk (P := fun r u => ¬ isM (sz 41 10) (ar 49) ∧ r = -103 ∧ u = X sz ar) ?_ (fun x v h => Or.inl h)
      have hno : ¬ isM (sz 41 10) (ar 49) := fun z => by have := z.1; omega
      refine z_bipush dX7_machine_38 (n := 40) rfl (by decide) ?_
      refine z_ret_i dX7_machine_40 rfl ?_
      exact ⟨hno, rfl, rfl⟩
    · refine z_aload_0 dX7_machine_30 (n := 31) rfl ?_
      refine z_iload_1 dX7_machine_31 (n := 32) rfl ?_
      refine z_callV1i dX7_machine_32 (n := 35) rfl mv_X7_isAimed lk_X7_92 rfl (zrm (by decide) (by decide)) (Nat.le_of_ble_eq_true rfl) (c_X7_isAimed (by omega) (by omega) hc) (fun r u hp => ?_)
      obtain ⟨rfl, rfl⟩ := hp
      refine z_ifB_ne dX7_machine_35 (n := 38) (tg := 41) rfl (by decide) (fun c35 => ?_) (fun c35 => ?_)
      · have hyes : isM (sz 41 10) (ar 49) := ⟨by omega, by omega, fun i a b => by have h1 := c35 i a b; rw [(ha (by omega) (by omega) i a b).1, (ha (by omega) (by omega) i a b).2] at h1; exact h1⟩
        refine z_iconst dX7_machine_41 (n := 42) rfl ?_
        refine z_istore_2 dX7_machine_42 (n := 43) rfl (by decide) (fun w h => by cases h; try rfl) ?_
        exact l1_X7_machine hyes (by omega) hp1 hc (ha (by omega) (by omega)) ((sz 41 10 + 1) / 4).toNat 0 ar (by omega) (by omega) rdK_0.symm rdN_0.symm (fun _ _ _ => rfl)
      · refine z_wk (P := fun r u => ¬ isM (sz 41 10) (ar 49) ∧ r = -103 ∧ u = X sz ar) ?_ (fun x v h => Or.inl h)
        have hno : ¬ isM (sz 41 10) (ar 49) := fun z => c35 (fun i a b => by rw [(ha (by omega) (by omega) i a b).1, (ha (by omega) (by omega) i a b).2]; exact z.2.2 i a b)
        refine z_bipush dX7_machine_38 (n := 40) rfl (by decide) ?_
        refine z_ret_i dX7_machine_40 rfl ?_
        exact ⟨hno, rfl, rfl⟩
