/-! the reference: counts, digest -/
set_option maxHeartbeats 4000000 in
theorem c_X7_classes {G : zG} {sz : zSz} {ar : zAr} (hM : MOK (sz 41 0) (ar 42) (ar 43))  : zSem G mX7_classes 5 [zR 41] (X sz ar) (zpi fun r u => r = cnt (fun k => lea (ar 42) (ar 43) k = k) (sz 41 0).toNat ∧ u = X sz ar) := by
  refine z_enter (L' := [some (zR 41), none, none]) (by decide +kernel) (Nat.le_of_ble_eq_true rfl) ⟨2, rfl⟩ ?_
  have hn := hM.1
  have hn6 := hM.2.1
  have HO : ∀ (m i : Nat), i + m = (sz 41 0).toNat → zWP G mX7_classes 5 (zpi fun r u => r = cnt (fun k => lea (ar 42) (ar 43) k = k) (sz 41 0).toNat ∧ u = X sz ar) 4 [some (zR 41), some (zI (cnt (fun k => lea (ar 42) (ar 43) k = k) i)), some (zI i)] [] (X sz ar) := by
    intro m
    induction m with
    | zero =>
      intro i hi
      have ei : i = (sz 41 0).toNat := by omega
      subst ei
      refine z_iload_2 dX7_classes_4 (n := 5) rfl ?_
      refine z_aload_0 dX7_classes_5 (n := 6) rfl ?_
      refine z_get dX7_classes_6 (n := 9) rfl rfl fd_X7_96 rfl ?_
      refine z_icmp_ge dX7_classes_9 (n := 12) (tg := 35) rfl (by decide) (by first | assumption | exact ⟨by omega, by omega⟩ | exact zb_zr _) (by first | assumption | exact ⟨by omega, by omega⟩ | exact zb_zr _) (fun c9 => ?_) (fun c9 => ?_)
      · refine z_iload_1 dX7_classes_35 (n := 36) rfl ?_
        refine z_ret_i dX7_classes_36 rfl ?_
        exact ⟨rfl, rfl⟩
      · exfalso; omega
    | succ m ih =>
      intro i hi
      have hlr := lea_r (ar 42) (ar 43) (s := i) (by omega)
      have h9 := ih (i + 1) (by omega)
      rw [show ((i + 1 : Nat) : Int) = (i : Int) + 1 by omega, show cnt (fun k => lea (ar 42) (ar 43) k = k) (i + 1) = cnt (fun k => lea (ar 42) (ar 43) k = k) i + zb (lea (ar 42) (ar 43) i = i) from rfl] at h9
      refine z_iload_2 dX7_classes_4 (n := 5) rfl ?_
      refine z_aload_0 dX7_classes_5 (n := 6) rfl ?_
      refine z_get dX7_classes_6 (n := 9) rfl rfl fd_X7_96 rfl ?_
      refine z_icmp_ge dX7_classes_9 (n := 12) (tg := 35) rfl (by decide) (by first | assumption | exact ⟨by omega, by omega⟩ | exact zb_zr _) (by first | assumption | exact ⟨by omega, by omega⟩ | exact zb_zr _) (fun c9 => ?_) (fun c9 => ?_)
      · exfalso; omega
      · refine z_iload_1 dX7_classes_12 (n := 13) rfl ?_
        refine z_aload_0 dX7_classes_13 (n := 14) rfl ?_
        refine z_iload_2 dX7_classes_14 (n := 15) rfl ?_
        refine z_callV1i dX7_classes_15 (n := 18) rfl mv_X7_leastAlike lk_X7_163 rfl (zrm (by decide) (by decide)) (Nat.le_of_ble_eq_true rfl) (c_X7_leastAlike (by omega) (by omega) hM) (fun r u hp => ?_)
        obtain ⟨rfl, rfl⟩ := hp
        refine z_iload_2 dX7_classes_18 (n := 19) rfl ?_
        refine z_icmp_ne dX7_classes_19 (n := 22) (tg := 26) rfl (by decide) (by first | assumption | exact ⟨by omega, by omega⟩ | exact zb_zr _) (by first | assumption | exact ⟨by omega, by omega⟩ | exact zb_zr _) (fun c19 => ?_) (fun c19 => ?_)
        · rw [zb_f c19] at h9
          refine z_iconst dX7_classes_26 (n := 27) rfl ?_
          refine z_iadd dX7_classes_27 (n := 28) rfl ?_
          refine z_istore_1 dX7_classes_28 (n := 29) rfl (by decide) (fun w h => by cases h; try rfl) ?_
          refine z_iinc_2 dX7_classes_29 (n := 32) rfl (by decide) (fun w h => by cases h; try rfl) ?_
          refine z_goto dX7_classes_32 (n := 4) (by decide) ?_
          exact h9
        · rw [zb_t c19] at h9
          refine z_iconst dX7_classes_22 (n := 23) rfl ?_
          refine z_goto dX7_classes_23 (n := 27) (by decide) ?_
          refine z_iadd dX7_classes_27 (n := 28) rfl ?_
          refine z_istore_1 dX7_classes_28 (n := 29) rfl (by decide) (fun w h => by cases h; try rfl) ?_
          refine z_iinc_2 dX7_classes_29 (n := 32) rfl (by decide) (fun w h => by cases h; try rfl) ?_
          refine z_goto dX7_classes_32 (n := 4) (by decide) ?_
          exact h9
  refine z_iconst dX7_classes_0 (n := 1) rfl ?_
  refine z_istore_1 dX7_classes_1 (n := 2) rfl (by decide) (fun w h => by cases h; try rfl) ?_
  refine z_iconst dX7_classes_2 (n := 3) rfl ?_
  refine z_istore_2 dX7_classes_3 (n := 4) rfl (by decide) (fun w h => by cases h; try rfl) ?_
  exact HO (sz 41 0).toNat 0 (by omega)
set_option maxHeartbeats 4000000 in
theorem c_X7_core {G : zG} {sz : zSz} {ar : zAr} (hM : MOK (sz 41 0) (ar 42) (ar 43))  : zSem G mX7_core 3 [zR 41] (X sz ar) (zpi fun r u => r = cnt (inC (ar 42) (ar 43) (sz 41 0)) (sz 41 0).toNat ∧ u = X sz ar) := by
  refine z_enter (L' := [some (zR 41), none, none]) (by decide +kernel) (Nat.le_of_ble_eq_true rfl) ⟨2, rfl⟩ ?_
  have hn := hM.1
  have hn6 := hM.2.1
  have HO : ∀ (m i : Nat), i + m = (sz 41 0).toNat → zWP G mX7_core 3 (zpi fun r u => r = cnt (inC (ar 42) (ar 43) (sz 41 0)) (sz 41 0).toNat ∧ u = X sz ar) 4 [some (zR 41), some (zI (cnt (inC (ar 42) (ar 43) (sz 41 0)) i)), some (zI i)] [] (X sz ar) := by
    intro m
    induction m with
    | zero =>
      intro i hi
      have ei : i = (sz 41 0).toNat := by omega
      subst ei
      refine z_iload_2 dX7_core_4 (n := 5) rfl ?_
      refine z_aload_0 dX7_core_5 (n := 6) rfl ?_
      refine z_get dX7_core_6 (n := 9) rfl rfl fd_X7_96 rfl ?_
      refine z_icmp_ge dX7_core_9 (n := 12) (tg := 38) rfl (by decide) (by first | assumption | exact ⟨by omega, by omega⟩ | exact zb_zr _) (by first | assumption | exact ⟨by omega, by omega⟩ | exact zb_zr _) (fun c9 => ?_) (fun c9 => ?_)
      · refine z_iload_1 dX7_core_38 (n := 39) rfl ?_
        refine z_ret_i dX7_core_39 rfl ?_
        exact ⟨rfl, rfl⟩
      · exfalso; omega
    | succ m ih =>
      intro i hi
      have hrr := rch_r hM (s := i) (by omega) (by omega)
      have h9 := ih (i + 1) (by omega)
      rw [show ((i + 1 : Nat) : Int) = (i : Int) + 1 by omega, show cnt (inC (ar 42) (ar 43) (sz 41 0)) (i + 1) = cnt (inC (ar 42) (ar 43) (sz 41 0)) i + zb (inC (ar 42) (ar 43) (sz 41 0) i) from rfl] at h9
      refine z_iload_2 dX7_core_4 (n := 5) rfl ?_
      refine z_aload_0 dX7_core_5 (n := 6) rfl ?_
      refine z_get dX7_core_6 (n := 9) rfl rfl fd_X7_96 rfl ?_
      refine z_icmp_ge dX7_core_9 (n := 12) (tg := 38) rfl (by decide) (by first | assumption | exact ⟨by omega, by omega⟩ | exact zb_zr _) (by first | assumption | exact ⟨by omega, by omega⟩ | exact zb_zr _) (fun c9 => ?_) (fun c9 => ?_)
      · exfalso; omega
      · refine z_iload_1 dX7_core_12 (n := 13) rfl ?_
        refine z_aload_0 dX7_core_13 (n := 14) rfl ?_
        refine z_iload_2 dX7_core_14 (n := 15) rfl ?_
        refine z_callV1i dX7_core_15 (n := 18) rfl mv_X7_reach lk_X7_160 rfl (zrm (by decide) (by decide)) (Nat.le_of_ble_eq_true rfl) (c_X7_reach (by omega) (by omega) hM) (fun r u hp => ?_)
        obtain ⟨rfl, rfl⟩ := hp
        refine z_iload_2 dX7_core_18 (n := 19) rfl ?_
        refine z_callS2i dX7_core_19 (n := 22) rfl ms_X7_isBit lk_X7_144 (zrm (by decide) (by decide)) (Nat.le_of_ble_eq_true rfl) (c_X7_isBit (by first | assumption | exact ⟨by omega, by omega⟩ | exact zb_zr _) (by omega) (by omega) (by omega)) (fun r u hp => ?_)
        obtain ⟨rfl, rfl⟩ := hp
        refine z_ifB_eq dX7_core_22 (n := 25) (tg := 29) rfl (by decide) (fun c22 => ?_) (fun c22 => ?_)
        · rw [zb_f (p := inC (ar 42) (ar 43) (sz 41 0) i) c22] at h9
          refine z_iconst dX7_core_29 (n := 30) rfl ?_
          refine z_iadd dX7_core_30 (n := 31) rfl ?_
          refine z_istore_1 dX7_core_31 (n := 32) rfl (by decide) (fun w h => by cases h; try rfl) ?_
          refine z_iinc_2 dX7_core_32 (n := 35) rfl (by decide) (fun w h => by cases h; try rfl) ?_
          refine z_goto dX7_core_35 (n := 4) (by decide) ?_
          exact h9
        · rw [zb_t (p := inC (ar 42) (ar 43) (sz 41 0) i) c22] at h9
          refine z_iconst dX7_core_25 (n := 26) rfl ?_
          refine z_goto dX7_core_26 (n := 30) (by decide) ?_
          refine z_iadd dX7_core_30 (n := 31) rfl ?_
          refine z_istore_1 dX7_core_31 (n := 32) rfl (by decide) (fun w h => by cases h; try rfl) ?_
          refine z_iinc_2 dX7_core_32 (n := 35) rfl (by decide) (fun w h => by cases h; try rfl) ?_
          refine z_goto dX7_core_35 (n := 4) (by decide) ?_
          exact h9
  refine z_iconst dX7_core_0 (n := 1) rfl ?_
  refine z_istore_1 dX7_core_1 (n := 2) rfl (by decide) (fun w h => by cases h; try rfl) ?_
  refine z_iconst dX7_core_2 (n := 3) rfl ?_
  refine z_istore_2 dX7_core_3 (n := 4) rfl (by decide) (fun w h => by cases h; try rfl) ?_
  exact HO (sz 41 0).toNat 0 (by omega)
set_option maxHeartbeats 4000000 in
theorem c_X7_howMany {G : zG} {sz : zSz} {ar : zAr} {q : Int} (hq : zr q) (hM : MOK (sz 41 0) (ar 42) (ar 43))  : zSem G mX7_howMany 6 [zR 41, zI q] (X sz ar) (zpi fun r u => r = cnV (sz 41 0) (ar 42) (ar 43) (ar 44 0 + ar 44 1 + ar 44 2) (sz 41 6) (sz 41 10) (sz 41 3) q ∧ u = X sz ar) := by
  refine z_enter (L' := [some (zR 41), some (zI q)]) (by decide +kernel) (Nat.le_of_ble_eq_true rfl) ⟨0, rfl⟩ ?_
  refine z_iload_1 dX7_howMany_0 (n := 1) rfl ?_
  refine z_by (0) (fun q1 => ?_) (fun q1_0 => ?_)
  · refine z_tsIn (off := 43) (tg := 44) dX7_howMany_1 (by first | assumption | exact ⟨by omega, by omega⟩ | exact zb_zr _) (by omega) (by omega) (by rw [q1]; rfl) (by decide) ?_
    refine z_aload_0 dX7_howMany_44 (n := 45) rfl ?_
    refine z_get dX7_howMany_45 (n := 48) rfl rfl fd_X7_96 rfl ?_
    refine z_ret_i dX7_howMany_48 rfl ?_
    exact ⟨by rw [q1]; rfl, rfl⟩
  · skip
    refine z_by (1) (fun q1 => ?_) (fun q1_1 => ?_)
    · refine z_tsIn (off := 48) (tg := 49) dX7_howMany_1 (by first | assumption | exact ⟨by omega, by omega⟩ | exact zb_zr _) (by omega) (by omega) (by rw [q1]; rfl) (by decide) ?_
      refine z_aload_0 dX7_howMany_49 (n := 50) rfl ?_
      refine z_callV0i dX7_howMany_50 (n := 53) rfl mv_X7_classes lk_X7_255 rfl (zrm (by decide) (by decide)) (Nat.le_of_ble_eq_true rfl) (c_X7_classes hM) (fun r u hp => ?_)
      obtain ⟨rfl, rfl⟩ := hp
      refine z_ret_i dX7_howMany_53 rfl ?_
      exact ⟨by rw [q1]; rfl, rfl⟩
    · skip
      refine z_by (2) (fun q1 => ?_) (fun q1_2 => ?_)
      · refine z_tsIn (off := 53) (tg := 54) dX7_howMany_1 (by first | assumption | exact ⟨by omega, by omega⟩ | exact zb_zr _) (by omega) (by omega) (by rw [q1]; rfl) (by decide) ?_
        refine z_aload_0 dX7_howMany_54 (n := 55) rfl ?_
        refine z_callV0i dX7_howMany_55 (n := 58) rfl mv_X7_core lk_X7_258 rfl (zrm (by decide) (by decide)) (Nat.le_of_ble_eq_true rfl) (c_X7_core hM) (fun r u hp => ?_)
        obtain ⟨rfl, rfl⟩ := hp
        refine z_ret_i dX7_howMany_58 rfl ?_
        exact ⟨by rw [q1]; rfl, rfl⟩
      · skip
        refine z_by (3) (fun q1 => ?_) (fun q1_3 => ?_)
        · refine z_tsIn (off := 58) (tg := 59) dX7_howMany_1 (by first | assumption | exact ⟨by omega, by omega⟩ | exact zb_zr _) (by omega) (by omega) (by rw [q1]; rfl) (by decide) ?_
          refine z_aload_0 dX7_howMany_59 (n := 60) rfl ?_
          refine z_get dX7_howMany_60 (n := 63) rfl rfl fd_X7_16 rfl ?_
          refine z_iconst dX7_howMany_63 (n := 64) rfl ?_
          refine z_iald dX7_howMany_64 (n := 65) rfl rfl (by omega) (by omega) (by decide) ?_
          refine z_aload_0 dX7_howMany_65 (n := 66) rfl ?_
          refine z_get dX7_howMany_66 (n := 69) rfl rfl fd_X7_16 rfl ?_
          refine z_iconst dX7_howMany_69 (n := 70) rfl ?_
          refine z_iald dX7_howMany_70 (n := 71) rfl rfl (by omega) (by omega) (by decide) ?_
          refine z_iadd dX7_howMany_71 (n := 72) rfl ?_
          refine z_aload_0 dX7_howMany_72 (n := 73) rfl ?_
          refine z_get dX7_howMany_73 (n := 76) rfl rfl fd_X7_16 rfl ?_
          refine z_iconst dX7_howMany_76 (n := 77) rfl ?_
          refine z_iald dX7_howMany_77 (n := 78) rfl rfl (by omega) (by omega) (by decide) ?_
          refine z_iadd dX7_howMany_78 (n := 79) rfl ?_
          refine z_ret_i dX7_howMany_79 rfl ?_
          exact ⟨by rw [q1]; rfl, rfl⟩
        · skip
          refine z_by (4) (fun q1 => ?_) (fun q1_4 => ?_)
          · refine z_tsIn (off := 79) (tg := 80) dX7_howMany_1 (by first | assumption | exact ⟨by omega, by omega⟩ | exact zb_zr _) (by omega) (by omega) (by rw [q1]; rfl) (by decide) ?_
            refine z_aload_0 dX7_howMany_80 (n := 81) rfl ?_
            refine z_get dX7_howMany_81 (n := 84) rfl rfl fd_X7_99 rfl ?_
            refine z_ret_i dX7_howMany_84 rfl ?_
            exact ⟨by rw [q1]; rfl, rfl⟩
          · skip
            refine z_by (5) (fun q1 => ?_) (fun q1_5 => ?_)
            · refine z_tsIn (off := 84) (tg := 85) dX7_howMany_1 (by first | assumption | exact ⟨by omega, by omega⟩ | exact zb_zr _) (by omega) (by omega) (by rw [q1]; rfl) (by decide) ?_
              refine z_aload_0 dX7_howMany_85 (n := 86) rfl ?_
              refine z_get dX7_howMany_86 (n := 89) rfl rfl fd_X7_73 rfl ?_
              refine z_ret_i dX7_howMany_89 rfl ?_
              exact ⟨by rw [q1]; rfl, rfl⟩
            · skip
              refine z_by (6) (fun q1 => ?_) (fun q1_6 => ?_)
              · refine z_tsIn (off := 89) (tg := 90) dX7_howMany_1 (by first | assumption | exact ⟨by omega, by omega⟩ | exact zb_zr _) (by omega) (by omega) (by rw [q1]; rfl) (by decide) ?_
                refine z_aload_0 dX7_howMany_90 (n := 91) rfl ?_
                refine z_get dX7_howMany_91 (n := 94) rfl rfl fd_X7_102 rfl ?_
                refine z_ret_i dX7_howMany_94 rfl ?_
                exact ⟨by rw [q1]; rfl, rfl⟩
              · skip
                refine z_tsOut (tg := 95) dX7_howMany_1 (by first | assumption | exact ⟨by omega, by omega⟩ | exact zb_zr _) (by omega) (by decide) ?_
                refine z_bipush dX7_howMany_95 (n := 97) rfl (by decide) ?_
                refine z_ret_i dX7_howMany_97 rfl ?_
                exact ⟨by unfold cnV; rw [if_neg (by omega), if_neg (by omega), if_neg (by omega), if_neg (by omega), if_neg (by omega), if_neg (by omega), if_neg (by omega)], rfl⟩
set_option maxHeartbeats 4000000 in
theorem c_X7_count {G : zG} {sz : zSz} {ar : zAr} {q : Int} (hq : zr q) (hM : MOK (sz 41 0) (ar 42) (ar 43))  : zSem G mX7_count 7 [zR 41, zI q] (X sz ar) (zpi fun r u => r = cnV (sz 41 0) (ar 42) (ar 43) (ar 44 0 + ar 44 1 + ar 44 2) (sz 41 6) (sz 41 10) (sz 41 3) q ∧ u = X sz ar) := by
  refine z_enter (L' := [some (zR 41), some (zI q)]) (by decide +kernel) (Nat.le_of_ble_eq_true rfl) ⟨0, rfl⟩ ?_
  refine z_aload_0 dX7_count_0 (n := 1) rfl ?_
  refine z_iload_1 dX7_count_1 (n := 2) rfl ?_
  refine z_callV1i dX7_count_2 (n := 5) rfl mv_X7_howMany lk_X7_261 rfl (zrm (by decide) (by decide)) (Nat.le_of_ble_eq_true rfl) (c_X7_howMany (by first | assumption | exact ⟨by omega, by omega⟩ | exact zb_zr _) hM) (fun r u hp => ?_)
  obtain ⟨rfl, rfl⟩ := hp
  refine z_ret_i dX7_count_5 rfl ?_
  exact ⟨rfl, rfl⟩
set_option maxHeartbeats 4000000 in
theorem c_X7_mix {G : zG} {sz : zSz} {ar : zAr} {v : Int}  : zSem G mX7_mix 0 [zR 41, zL v] (X sz ar) (zpv fun u => u = X (zz sz 41 29 (31 * sz 41 29 + v)) ar) := by
  refine z_enter (L' := [some (zR 41), some (zL v), none]) (by decide +kernel) (Nat.le_of_ble_eq_true rfl) ⟨0, rfl⟩ ?_
  refine z_aload_0 dX7_mix_0 (n := 1) rfl ?_
  refine z_ldc2 dX7_mix_1 (n := 4) rfl kn_X7_264 ?_
  refine z_aload_0 dX7_mix_4 (n := 5) rfl ?_
  refine z_get dX7_mix_5 (n := 8) rfl rfl fd_X7_266 rfl ?_
  refine z_lmul dX7_mix_8 (n := 9) rfl ?_
  refine z_lload_1 dX7_mix_9 (n := 10) rfl ?_
  refine z_ladd dX7_mix_10 (n := 11) rfl ?_
  refine z_putLX dX7_mix_11 (n := 14) rfl rfl fw_X7_266 (by first | decide | simp) rfl ?_
  refine z_ret_v dX7_mix_14 rfl ?_
  rfl
/-- only what is never seen has changed, the digest too -/
def Mh (sz : zSz) (ar : zAr) (sz' : zSz) (ar' : zAr) : Prop := (∀ j, j ≠ 41 → sz' j = sz j) ∧ (∀ i, i ≠ 12 → i ≠ 14 → i ≠ 17 → i ≠ 29 → sz' 41 i = sz 41 i) ∧ ∀ j, j < 50 ∨ 53 < j → ar' j = ar j
theorem Mh.rf {sz : zSz} {ar : zAr} : Mh sz ar sz ar := ⟨fun _ _ => rfl, fun _ _ _ _ _ => rfl, fun _ _ => rfl⟩
theorem Mh.tr {sz sz' sz'' : zSz} {ar ar' ar'' : zAr} (h : Mh sz ar sz' ar') (h2 : Mh sz' ar' sz'' ar'') : Mh sz ar sz'' ar'' := ⟨fun j a => (h2.1 j a).trans (h.1 j a), fun i a b c d => (h2.2.1 i a b c d).trans (h.2.1 i a b c d), fun j a => (h2.2.2 j a).trans (h.2.2 j a)⟩
theorem Mg.k {sz sz' : zSz} {ar ar' : zAr} (h : Mg sz ar sz' ar') : Mh sz ar sz' ar' := ⟨h.1, fun i a b c _ => h.2.1 i a b c, h.2.2⟩
theorem MK.h {ws : Int → List Int} {sz sz' : zSz} {ar ar' : zAr} (h : MK ws sz ar) (hF : Mh sz ar sz' ar') : MK ws sz' ar' := by
  unfold MK
  rw [hF.2.1 0 (by decide) (by decide) (by decide) (by decide), hF.2.1 10 (by decide) (by decide) (by decide) (by decide), hF.2.1 6 (by decide) (by decide) (by decide) (by decide), hF.2.1 3 (by decide) (by decide) (by decide) (by decide), hF.2.1 19 (by decide) (by decide) (by decide) (by decide), hF.2.2 42 (by omega), hF.2.2 43 (by omega), hF.2.2 44 (by omega), hF.2.2 45 (by omega), hF.2.2 46 (by omega), hF.2.2 47 (by omega), hF.2.2 48 (by omega), hF.2.2 49 (by omega)]
  exact h
theorem Mh.h {sz : zSz} {ar : zAr} (x : Int) : Mh sz ar (zz sz 41 29 x) ar := ⟨fun j hj => zz_ne hj, fun i _ _ _ hi => zz_ni hi, fun _ _ => rfl⟩
def PH (x : Int) (sz : zSz) (ar : zAr) (u : zS) : Prop := ∃ sz' ar', u = X sz' ar' ∧ sz' 41 29 = x ∧ Mh sz ar sz' ar'
set_option maxHeartbeats 8000000 in
theorem lf_X7_mixWord {G : zG} {ws : Int → List Int} {sz : zSz} {ar : zAr} {w h0 : Int} (hC : MK ws sz ar) (hw0 : 0 ≤ w) (hw1 : w < 3) :
    ∀ (m k : Nat) (sz' : zSz) (ar' : zAr), k + m = 4 → sz' 41 29 = flH (ar 42) (ar 43) (ws w) k h0 → Mh sz ar sz' ar' →
    zWP G mX7_mixWord 5 (zpv (PH (31 * (31 * flH (ar 42) (ar 43) (ws w) 4 h0 + rwd (ar 42) (ar 43) 6 (ws w) 0) + rwd (ar 42) (ar 43) 6 (ws w) 5) sz ar)) 49 [some (zR 41), some (zI w), some (zI k)] [] (X sz' ar') := by
  have hn6 := hC.1.2.1
  intro m
  induction m with
  | zero =>
    intro k sz' ar' hk hh hF
    have ek : k = 4 := by omega
    subst ek
    have hC' := hC.h hF
    have e42 : ar' 42 = ar 42 := hF.2.2 42 (by omega)
    have e43 : ar' 43 = ar 43 := hF.2.2 43 (by omega)
    have hFb : Mh sz ar (zz sz' 41 29 (31 * sz' 41 29 + rwd (ar 42) (ar 43) 6 (ws w) 0)) ar' := hF.tr (Mh.h _)
    have hCb := hC.h hFb
    have r0 := rwd_r (ar 42) (ar 43) 6 (ws w) 0 (by decide) (by decide)
    have r5 := rwd_r (ar 42) (ar 43) 6 (ws w) 5 (by decide) (by decide)
    have e64 : (2 : Int) ^ 6 = 64 := rfl
    refine z_iload_2 dX7_mixWord_49 (n := 50) rfl ?_
    refine z_iconst dX7_mixWord_50 (n := 51) rfl ?_
    refine z_icmp_ge dX7_mixWord_51 (n := 54) (tg := 71) rfl (by decide) (by first | assumption | exact ⟨by omega, by omega⟩ | exact zb_zr _) (by first | assumption | exact ⟨by omega, by omega⟩ | exact zb_zr _) (fun c51 => ?_) (fun c51 => ?_)
    · refine z_aload_0 dX7_mixWord_71 (n := 72) rfl ?_
      refine z_aload_0 dX7_mixWord_72 (n := 73) rfl ?_
      refine z_iload_1 dX7_mixWord_73 (n := 74) rfl ?_
      refine z_iconst dX7_mixWord_74 (n := 75) rfl ?_
      refine z_bipush dX7_mixWord_75 (n := 77) rfl (by decide) ?_
      refine z_callV3i dX7_mixWord_77 (n := 80) rfl mv_X7_actWord lk_X7_184 rfl (zrm (by decide) (by decide)) (Nat.le_of_ble_eq_true rfl) (c_X7_actWord hw0 hw1 hC'.1 (hC'.2.2.1 w hw0 hw1) (by decide) (by decide) (by decide) (by decide)) (fun r u hp => ?_)
      obtain ⟨rfl, rfl⟩ := hp
      rw [show (6 : Int).toNat = 6 from rfl, e42, e43]
      refine z_i2l dX7_mixWord_80 (n := 81) rfl (by first | assumption | exact ⟨by omega, by omega⟩ | exact zb_zr _) ?_
      refine z_callV1v dX7_mixWord_81 (n := 84) rfl mv_X7_mix lk_X7_269 rfl (zrm (by decide) (by decide)) (Nat.le_of_ble_eq_true rfl) (c_X7_mix) (fun u hp => ?_)
      subst hp
      refine z_aload_0 dX7_mixWord_84 (n := 85) rfl ?_
      refine z_aload_0 dX7_mixWord_85 (n := 86) rfl ?_
      refine z_iload_1 dX7_mixWord_86 (n := 87) rfl ?_
      refine z_iconst dX7_mixWord_87 (n := 88) rfl ?_
      refine z_bipush dX7_mixWord_88 (n := 90) rfl (by decide) ?_
      refine z_callV3i dX7_mixWord_90 (n := 93) rfl mv_X7_actWord lk_X7_184 rfl (zrm (by decide) (by decide)) (Nat.le_of_ble_eq_true rfl) (c_X7_actWord hw0 hw1 hCb.1 (hCb.2.2.1 w hw0 hw1) (by decide) (by decide) (by decide) (by decide)) (fun r u hp => ?_)
      obtain ⟨rfl, rfl⟩ := hp
      rw [show (6 : Int).toNat = 6 from rfl, e42, e43]
      refine z_i2l dX7_mixWord_93 (n := 94) rfl (by first | assumption | exact ⟨by omega, by omega⟩ | exact zb_zr _) ?_
      refine z_callV1v dX7_mixWord_94 (n := 97) rfl mv_X7_mix lk_X7_269 rfl (zrm (by decide) (by decide)) (Nat.le_of_ble_eq_true rfl) (c_X7_mix) (fun u hp => ?_)
      subst hp
      refine z_ret_v dX7_mixWord_97 rfl ?_
      exact ⟨_, _, rfl, by rw [zz_eq, zz_eq, hh], hFb.tr (Mh.h _)⟩
    · exfalso; omega
  | succ m ih =>
    intro k sz' ar' hk hh hF
    have hC' := hC.h hF
    have e42 : ar' 42 = ar 42 := hF.2.2 42 (by omega)
    have e43 : ar' 43 = ar 43 := hF.2.2 43 (by omega)
    have hfr := fbk_r (ar 42) (ar 43) k (ws w) (2 ^ k)
    have hz : zr (fbk (ar 42) (ar 43) k (ws w) (2 ^ k)) := by
      have : k = 0 ∨ k = 1 ∨ k = 2 ∨ k = 3 := by omega
      rcases this with rfl | rfl | rfl | rfl
      · exact ⟨by omega, Int.lt_trans hfr.2 (by decide)⟩
      · exact ⟨by omega, Int.lt_trans hfr.2 (by decide)⟩
      · exact ⟨by omega, Int.lt_trans hfr.2 (by decide)⟩
      · exact ⟨by omega, Int.lt_trans hfr.2 (by decide)⟩
    refine z_iload_2 dX7_mixWord_49 (n := 50) rfl ?_
    refine z_iconst dX7_mixWord_50 (n := 51) rfl ?_
    refine z_icmp_ge dX7_mixWord_51 (n := 54) (tg := 71) rfl (by decide) (by first | assumption | exact ⟨by omega, by omega⟩ | exact zb_zr _) (by first | assumption | exact ⟨by omega, by omega⟩ | exact zb_zr _) (fun c51 => ?_) (fun c51 => ?_)
    · exfalso; omega
    · refine z_aload_0 dX7_mixWord_54 (n := 55) rfl ?_
      refine z_aload_0 dX7_mixWord_55 (n := 56) rfl ?_
      refine z_iload_1 dX7_mixWord_56 (n := 57) rfl ?_
      refine z_iload_2 dX7_mixWord_57 (n := 58) rfl ?_
      refine z_callV2i dX7_mixWord_58 (n := 61) rfl mv_X7_flipsOf lk_X7_187 rfl (zrm (by decide) (by decide)) (Nat.le_of_ble_eq_true rfl) (c_X7_flipsOf hC' hw0 hw1 (by omega) (by omega)) (fun r u hp => ?_)
      obtain ⟨rfl, rfl⟩ := hp
      rw [e42, e43, Int.toNat_natCast]
      refine z_i2l dX7_mixWord_61 (n := 62) rfl (by first | assumption | exact ⟨by omega, by omega⟩ | exact zb_zr _) ?_
      refine z_callV1v dX7_mixWord_62 (n := 65) rfl mv_X7_mix lk_X7_269 rfl (zrm (by decide) (by decide)) (Nat.le_of_ble_eq_true rfl) (c_X7_mix) (fun u hp => ?_)
      subst hp
      refine z_iinc_2 dX7_mixWord_65 (n := 68) rfl (by decide) (fun w h => by cases h; try rfl) ?_
      refine z_goto dX7_mixWord_68 (n := 49) (by decide) ?_
      have h9 := ih (k + 1) (zz sz' 41 29 (31 * sz' 41 29 + fbk (ar 42) (ar 43) k (ws w) (2 ^ k))) ar' (by omega) (by rw [zz_eq, hh]; rfl) (hF.tr (Mh.h _))
      rw [show ((k + 1 : Nat) : Int) = (k : Int) + 1 by omega] at h9
      exact h9
set_option maxHeartbeats 8000000 in
theorem ll_X7_mixWord {G : zG} {ws : Int → List Int} {sz : zSz} {ar : zAr} {w : Int} (hC : MK ws sz ar) (hR : RD ws) (hw0 : 0 ≤ w) (hw1 : w < 3) :
    ∀ (rest pre : List Int) (h : Int) (sz' : zSz) (ar' : zAr), ws w = pre ++ rest → sz' 41 29 = h → Mh sz ar sz' ar' →
    zWP G mX7_mixWord 5 (zpv (PH (dgT (ar 42) (ar 43) (ws w) (ltH rest h)) sz ar)) 2 [some (zR 41), some (zI w), some (zI pre.length)] [] (X sz' ar') := by
  have hn6 := hC.1.2.1
  have hL := hC.2.2.1 w hw0 hw1
  have hl := hL.1.1
  intro rest
  induction rest with
  | nil =>
    intro pre h sz' ar' e hh hF
    have el : (ws w).length = pre.length := by rw [e]; simp
    have hC' := hC.h hF
    have e42 : ar' 42 = ar 42 := hF.2.2 42 (by omega)
    have e43 : ar' 43 = ar 43 := hF.2.2 43 (by omega)
    have e44 : ar' 44 = ar 44 := hF.2.2 44 (by omega)
    have hnr := ntw_r (ar 42) (ar 43) (ws w)
    refine z_iload_2 dX7_mixWord_2 (n := 3) rfl ?_
    refine z_aload_0 dX7_mixWord_3 (n := 4) rfl ?_
    refine z_get dX7_mixWord_4 (n := 7) rfl rfl fd_X7_16 rfl ?_
    refine z_iload_1 dX7_mixWord_7 (n := 8) rfl ?_
    refine z_iald dX7_mixWord_8 (n := 9) rfl rfl (by omega) (by omega) (by decide) ?_
    rw [e44]
    refine z_icmp_ge dX7_mixWord_9 (n := 12) (tg := 37) rfl (by decide) (by first | assumption | exact ⟨by omega, by omega⟩ | exact zb_zr _) (by first | assumption | exact ⟨by omega, by omega⟩ | exact zb_zr _) (fun c9 => ?_) (fun c9 => ?_)
    · refine z_aload_0 dX7_mixWord_37 (n := 38) rfl ?_
      refine z_aload_0 dX7_mixWord_38 (n := 39) rfl ?_
      refine z_iload_1 dX7_mixWord_39 (n := 40) rfl ?_
      refine z_callV1i dX7_mixWord_40 (n := 43) rfl mv_X7_nothingOf lk_X7_215 rfl (zrm (by decide) (by decide)) (Nat.le_of_ble_eq_true rfl) (c_X7_nothingOf hC' hR hw0 hw1) (fun r u hp => ?_)
      obtain ⟨rfl, sz2, ar2, rfl, hF2⟩ := hp
      rw [e42, e43]
      have hh2 : sz2 41 29 = h := (hF2.2.1 29 (by decide) (by decide) (by decide)).trans hh
      refine z_i2l dX7_mixWord_43 (n := 44) rfl (by first | assumption | exact ⟨by omega, by omega⟩ | exact zb_zr _) ?_
      refine z_callV1v dX7_mixWord_44 (n := 47) rfl mv_X7_mix lk_X7_269 rfl (zrm (by decide) (by decide)) (Nat.le_of_ble_eq_true rfl) (c_X7_mix) (fun u hp => ?_)
      subst hp
      refine z_iconst dX7_mixWord_47 (n := 48) rfl ?_
      refine z_istore_2 dX7_mixWord_48 (n := 49) rfl (by decide) (fun w h => by cases h; try rfl) ?_
      exact lf_X7_mixWord hC hw0 hw1 4 0 _ _ (by omega) (by rw [zz_eq, hh2]; rfl) ((hF.tr hF2.k).tr (Mh.h _))
    · exfalso; omega
  | cons a t ih =>
    intro pre h sz' ar' e hh hF
    have el : (ws w).length = pre.length + (t.length + 1) := by rw [e]; simp
    have ha := hL.2.1 a (by rw [e]; simp)
    have e44 : ar' 44 = ar 44 := hF.2.2 44 (by omega)
    have e45 : ar' 45 = ar 45 := hF.2.2 45 (by omega)
    have hm : ar 45 (16 * w + pre.length) = a := LR.mid (t := t) (n := ar 44 w) (f := fun k => ar 45 (16 * w + k)) (by rw [← e]; exact hL.1)
    have hcd : 0 ≤ cdl a ∧ cdl a < 128 := by unfold cdl; split <;> omega
    refine z_iload_2 dX7_mixWord_2 (n := 3) rfl ?_
    refine z_aload_0 dX7_mixWord_3 (n := 4) rfl ?_
    refine z_get dX7_mixWord_4 (n := 7) rfl rfl fd_X7_16 rfl ?_
    refine z_iload_1 dX7_mixWord_7 (n := 8) rfl ?_
    refine z_iald dX7_mixWord_8 (n := 9) rfl rfl (by omega) (by omega) (by decide) ?_
    rw [e44]
    refine z_icmp_ge dX7_mixWord_9 (n := 12) (tg := 37) rfl (by decide) (by first | assumption | exact ⟨by omega, by omega⟩ | exact zb_zr _) (by first | assumption | exact ⟨by omega, by omega⟩ | exact zb_zr _) (fun c9 => ?_) (fun c9 => ?_)
    · exfalso; omega
    · refine z_aload_0 dX7_mixWord_12 (n := 13) rfl ?_
      refine z_aload_0 dX7_mixWord_13 (n := 14) rfl ?_
      refine z_get dX7_mixWord_14 (n := 17) rfl rfl fd_X7_19 rfl ?_
      refine z_bipush dX7_mixWord_17 (n := 19) rfl (by decide) ?_
      refine z_iload_1 dX7_mixWord_19 (n := 20) rfl ?_
      refine z_imul dX7_mixWord_20 (n := 21) rfl ?_
      refine z_iload_2 dX7_mixWord_21 (n := 22) rfl ?_
      refine z_iadd dX7_mixWord_22 (n := 23) rfl ?_
      refine z_iald dX7_mixWord_23 (n := 24) rfl rfl (by omega) (by omega) (by decide) ?_
      rw [e45, hm]
      refine z_callS1i dX7_mixWord_24 (n := 27) rfl ms_X7_codeOf lk_X7_178 (zrm (by decide) (by decide)) (Nat.le_of_ble_eq_true rfl) (c_X7_codeOf (by omega) (by omega)) (fun r u hp => ?_)
      obtain ⟨rfl, rfl⟩ := hp
      refine z_i2l dX7_mixWord_27 (n := 28) rfl (by first | assumption | exact ⟨by omega, by omega⟩ | exact zb_zr _) ?_
      refine z_callV1v dX7_mixWord_28 (n := 31) rfl mv_X7_mix lk_X7_269 rfl (zrm (by decide) (by decide)) (Nat.le_of_ble_eq_true rfl) (c_X7_mix) (fun u hp => ?_)
      subst hp
      refine z_iinc_2 dX7_mixWord_31 (n := 34) rfl (by decide) (fun w h => by cases h; try rfl) ?_
      refine z_goto dX7_mixWord_34 (n := 2) (by decide) ?_
      have h9 := ih (pre ++ [a]) (31 * h + cdl a) (zz sz' 41 29 (31 * sz' 41 29 + cdl a)) ar' (by rw [e]; simp) (by rw [zz_eq, hh]) (hF.tr (Mh.h _))
      rw [show ((pre ++ [a]).length : Int) = (pre.length : Int) + 1 by simp] at h9
      exact h9
set_option maxHeartbeats 4000000 in
theorem c_X7_mixWord {G : zG} {sz : zSz} {ar : zAr} {ws : Int → List Int} {w : Int} (hC : MK ws sz ar) (hR : RD ws) (hw0 : 0 ≤ w) (hw1 : w < 3)  : zSem G mX7_mixWord 5 [zR 41, zI w] (X sz ar) (zpv fun u => PH (dgW (ar 42) (ar 43) (ws w) (sz 41 29)) sz ar u) := by
  refine z_enter (L' := [some (zR 41), some (zI w), none]) (by decide +kernel) (Nat.le_of_ble_eq_true rfl) ⟨1, rfl⟩ ?_
  refine z_iconst dX7_mixWord_0 (n := 1) rfl ?_
  refine z_istore_2 dX7_mixWord_1 (n := 2) rfl (by decide) (fun w h => by cases h; try rfl) ?_
  exact ll_X7_mixWord hC hR hw0 hw1 (ws w) [] (sz 41 29) sz ar rfl rfl Mh.rf
theorem soR_r (sz : zSz) (ar : zAr) (s : Int) : 0 ≤ soR sz ar s ∧ soR sz ar s < 32 := srt_r (sz 41 6) (ar 46) (ar 47) (ar 48) s 5
theorem cnR_r {ws : Int → List Int} {sz : zSz} {ar : zAr} (hC : MK ws sz ar) (q : Int) : zr (cnV (sz 41 0) (ar 42) (ar 43) (ar 44 0 + ar 44 1 + ar 44 2) (sz 41 6) (sz 41 10) (sz 41 3) q) := by
  obtain ⟨hM, ⟨hp0, hp1, hc⟩, hW, ⟨hs0, hs1, hof, hwh, hco⟩, hmr, hkm⟩ := hC
  have hn := hM.1
  have hn6 := hM.2.1
  have a := cnt_r (fun k => lea (ar 42) (ar 43) k = k) (sz 41 0).toNat
  have b := cnt_r (inC (ar 42) (ar 43) (sz 41 0)) (sz 41 0).toNat
  have l0 : ar 44 0 = (ws 0).length := (hW 0 (by omega) (by omega)).1.1
  have l1 : ar 44 1 = (ws 1).length := (hW 1 (by omega) (by omega)).1.1
  have l2 : ar 44 2 = (ws 2).length := (hW 2 (by omega) (by omega)).1.1
  have m0 := (hW 0 (by omega) (by omega)).2.2
  have m1 := (hW 1 (by omega) (by omega)).2.2
  have m2 := (hW 2 (by omega) (by omega)).2.2
  unfold cnV
  split
  · exact ⟨by omega, by omega⟩
  split
  · exact ⟨by omega, by omega⟩
  split
  · exact ⟨by omega, by omega⟩
  split
  · exact ⟨by omega, by omega⟩
  split
  · exact ⟨by omega, by omega⟩
  split
  · exact ⟨by omega, by omega⟩
  split
  · exact hmr
  · exact ⟨by decide, by decide⟩
theorem Mh.all {sz sz' : zSz} {ar ar' : zAr} (hF : Mh sz ar sz' ar') : sz' 41 0 = sz 41 0 ∧ sz' 41 3 = sz 41 3 ∧ sz' 41 6 = sz 41 6 ∧ sz' 41 10 = sz 41 10 ∧ ar' 42 = ar 42 ∧ ar' 43 = ar 43 ∧ ar' 44 = ar 44 ∧ ar' 46 = ar 46 ∧ ar' 47 = ar 47 ∧ ar' 48 = ar 48 ∧ ar' 49 = ar 49 :=
  ⟨hF.2.1 0 (by decide) (by decide) (by decide) (by decide), hF.2.1 3 (by decide) (by decide) (by decide) (by decide), hF.2.1 6 (by decide) (by decide) (by decide) (by decide), hF.2.1 10 (by decide) (by decide) (by decide) (by decide), hF.2.2 42 (by omega), hF.2.2 43 (by omega), hF.2.2 44 (by omega), hF.2.2 46 (by omega), hF.2.2 47 (by omega), hF.2.2 48 (by omega), hF.2.2 49 (by omega)⟩
set_option maxHeartbeats 8000000 in
theorem lc_X7_digest {G : zG} {ws : Int → List Int} {sz : zSz} {ar : zAr} {h0 : Int} (hC : MK ws sz ar) :
    ∀ (m k : Nat) (sz' : zSz) (ar' : zAr) (y : Option zV), k + m = 7 → sz' 41 29 = cnH (sz 41 0) (ar 42) (ar 43) (ar 44 0 + ar 44 1 + ar 44 2) (sz 41 6) (sz 41 10) (sz 41 3) k h0 → Mh sz ar sz' ar' →
    zWP G mX7_digest 7 (zpl fun r u => r = cnH (sz 41 0) (ar 42) (ar 43) (ar 44 0 + ar 44 1 + ar 44 2) (sz 41 6) (sz 41 10) (sz 41 3) 7 h0 ∧ ∃ sz' ar', u = X sz' ar' ∧ Mh sz ar sz' ar') 102 [some (zR 41), some (zI k), y] [] (X sz' ar') := by
  intro m
  induction m with
  | zero =>
    intro k sz' ar' y hk hh hF
    have ek : k = 7 := by omega
    subst ek
    refine z_iload_1 dX7_digest_102 (n := 103) rfl ?_
    refine z_bipush dX7_digest_103 (n := 105) rfl (by decide) ?_
    refine z_icmp_ge dX7_digest_105 (n := 108) (tg := 124) rfl (by decide) (by first | assumption | exact ⟨by omega, by omega⟩ | exact zb_zr _) (by first | assumption | exact ⟨by omega, by omega⟩ | exact zb_zr _) (fun c105 => ?_) (fun c105 => ?_)
    · refine z_aload_0 dX7_digest_124 (n := 125) rfl ?_
      refine z_get dX7_digest_125 (n := 128) rfl rfl fd_X7_266 rfl ?_
      refine z_ret_l dX7_digest_128 rfl ?_
      exact ⟨hh, _, _, rfl, hF⟩
    · exfalso; omega
  | succ m ih =>
    intro k sz' ar' y hk hh hF
    obtain ⟨e0, e3, e6, e10, e42, e43, e44, e46, e47, e48, e49⟩ := hF.all
    have hC' := hC.h hF
    have hr := cnR_r hC k
    refine z_iload_1 dX7_digest_102 (n := 103) rfl ?_
    refine z_bipush dX7_digest_103 (n := 105) rfl (by decide) ?_
    refine z_icmp_ge dX7_digest_105 (n := 108) (tg := 124) rfl (by decide) (by first | assumption | exact ⟨by omega, by omega⟩ | exact zb_zr _) (by first | assumption | exact ⟨by omega, by omega⟩ | exact zb_zr _) (fun c105 => ?_) (fun c105 => ?_)
    · exfalso; omega
    · refine z_aload_0 dX7_digest_108 (n := 109) rfl ?_
      refine z_aload_0 dX7_digest_109 (n := 110) rfl ?_
      refine z_iload_1 dX7_digest_110 (n := 111) rfl ?_
      refine z_callV1i dX7_digest_111 (n := 114) rfl mv_X7_howMany lk_X7_261 rfl (zrm (by decide) (by decide)) (Nat.le_of_ble_eq_true rfl) (c_X7_howMany (by first | assumption | exact ⟨by omega, by omega⟩ | exact zb_zr _) hC'.1) (fun r u hp => ?_)
      obtain ⟨rfl, rfl⟩ := hp
      rw [e0, e42, e43, e44, e6, e10, e3]
      refine z_i2l dX7_digest_114 (n := 115) rfl (by first | assumption | exact ⟨by omega, by omega⟩ | exact zb_zr _) ?_
      refine z_callV1v dX7_digest_115 (n := 118) rfl mv_X7_mix lk_X7_269 rfl (zrm (by decide) (by decide)) (Nat.le_of_ble_eq_true rfl) (c_X7_mix) (fun u hp => ?_)
      subst hp
      refine z_iinc_1 dX7_digest_118 (n := 121) rfl (by decide) (fun w h => by cases h; try rfl) ?_
      refine z_goto dX7_digest_121 (n := 102) (by decide) ?_
      have h9 := ih (k + 1) (zz sz' 41 29 (31 * sz' 41 29 + cnV (sz 41 0) (ar 42) (ar 43) (ar 44 0 + ar 44 1 + ar 44 2) (sz 41 6) (sz 41 10) (sz 41 3) k)) ar' y (by omega) (by rw [zz_eq, hh]; rfl) (hF.tr (Mh.h _))
      rw [show ((k + 1 : Nat) : Int) = (k : Int) + 1 by omega] at h9
      exact h9
set_option maxHeartbeats 8000000 in
theorem lp_X7_digest {G : zG} {ws : Int → List Int} {sz : zSz} {ar : zAr} {h0 : Int} (hC : MK ws sz ar) :
    ∀ (m k : Nat) (sz' : zSz) (ar' : zAr) (y : Option zV), (k : Int) + m = sz 41 10 → sz' 41 29 = pgH (ar 49) k h0 → Mh sz ar sz' ar' →
    zWP G mX7_digest 7 (zpl fun r u => r = cnH (sz 41 0) (ar 42) (ar 43) (ar 44 0 + ar 44 1 + ar 44 2) (sz 41 6) (sz 41 10) (sz 41 3) 7 (pgH (ar 49) (sz 41 10).toNat h0) ∧ ∃ sz' ar', u = X sz' ar' ∧ Mh sz ar sz' ar') 75 [some (zR 41), some (zI k), y] [] (X sz' ar') := by
  have hp0 := hC.2.1.1
  have hp1 := hC.2.1.2.1
  have hcz := hC.2.1.2.2
  intro m
  induction m with
  | zero =>
    intro k sz' ar' y hk hh hF
    obtain ⟨e0, e3, e6, e10, e42, e43, e44, e46, e47, e48, e49⟩ := hF.all
    have ek : k = (sz 41 10).toNat := by omega
    subst ek
    refine z_iload_1 dX7_digest_75 (n := 76) rfl ?_
    refine z_aload_0 dX7_digest_76 (n := 77) rfl ?_
    refine z_get dX7_digest_77 (n := 80) rfl rfl fd_X7_73 rfl ?_
    refine z_icmp_ge dX7_digest_80 (n := 83) (tg := 100) rfl (by decide) (by first | assumption | exact ⟨by omega, by omega⟩ | exact zb_zr _) (by first | assumption | exact ⟨by omega, by omega⟩ | exact zb_zr _) (fun c80 => ?_) (fun c80 => ?_)
    · refine z_iconst dX7_digest_100 (n := 101) rfl ?_
      refine z_istore_1 dX7_digest_101 (n := 102) rfl (by decide) (fun w h => by cases h; try rfl) ?_
      exact lc_X7_digest hC 7 0 sz' ar' y (by omega) hh hF
    · exfalso; omega
  | succ m ih =>
    intro k sz' ar' y hk hh hF
    obtain ⟨e0, e3, e6, e10, e42, e43, e44, e46, e47, e48, e49⟩ := hF.all
    have hck := hcz k
    refine z_iload_1 dX7_digest_75 (n := 76) rfl ?_
    refine z_aload_0 dX7_digest_76 (n := 77) rfl ?_
    refine z_get dX7_digest_77 (n := 80) rfl rfl fd_X7_73 rfl ?_
    refine z_icmp_ge dX7_digest_80 (n := 83) (tg := 100) rfl (by decide) (by first | assumption | exact ⟨by omega, by omega⟩ | exact zb_zr _) (by first | assumption | exact ⟨by omega, by omega⟩ | exact zb_zr _) (fun c80 => ?_) (fun c80 => ?_)
    · exfalso; omega
    · refine z_aload_0 dX7_digest_83 (n := 84) rfl ?_
      refine z_aload_0 dX7_digest_84 (n := 85) rfl ?_
      refine z_get dX7_digest_85 (n := 88) rfl rfl fd_X7_32 rfl ?_
      refine z_iload_1 dX7_digest_88 (n := 89) rfl ?_
      refine z_iald dX7_digest_89 (n := 90) rfl rfl (by omega) (by omega) (by decide) ?_
      rw [e49]
      refine z_i2l dX7_digest_90 (n := 91) rfl (by first | assumption | exact ⟨by omega, by omega⟩ | exact zb_zr _) ?_
      refine z_callV1v dX7_digest_91 (n := 94) rfl mv_X7_mix lk_X7_269 rfl (zrm (by decide) (by decide)) (Nat.le_of_ble_eq_true rfl) (c_X7_mix) (fun u hp => ?_)
      subst hp
      refine z_iinc_1 dX7_digest_94 (n := 97) rfl (by decide) (fun w h => by cases h; try rfl) ?_
      refine z_goto dX7_digest_97 (n := 75) (by decide) ?_
      have h9 := ih (k + 1) (zz sz' 41 29 (31 * sz' 41 29 + ar 49 k)) ar' y (by omega) (by rw [zz_eq, hh]; rfl) (hF.tr (Mh.h _))
      rw [show ((k + 1 : Nat) : Int) = (k : Int) + 1 by omega] at h9
      exact h9
set_option maxHeartbeats 8000000 in
theorem ls_X7_digest {G : zG} {ws : Int → List Int} {sz : zSz} {ar : zAr} {h0 : Int} {s : Nat} {P : Option zV → zS → Prop} (hC : MK ws sz ar) (hs : (s : Int) < sz 41 0)
    (K : ∀ sz' ar', sz' 41 29 = stK (sz 41 0) (ar 42) (ar 43) (soR sz ar) s 8 h0 → Mh sz ar sz' ar' → zWP G mX7_digest 7 P 42 [some (zR 41), some (zI s), some (zI 8)] [] (X sz' ar')) :
    ∀ (m k : Nat) (sz' : zSz) (ar' : zAr), k + m = 8 → sz' 41 29 = stK (sz 41 0) (ar 42) (ar 43) (soR sz ar) s k h0 → Mh sz ar sz' ar' →
    zWP G mX7_digest 7 P 19 [some (zR 41), some (zI s), some (zI k)] [] (X sz' ar') := by
  have hn6 := hC.1.2.1
  intro m
  induction m with
  | zero =>
    intro k sz' ar' hk hh hF
    have ek : k = 8 := by omega
    subst ek
    refine z_iload_2 dX7_digest_19 (n := 20) rfl ?_
    refine z_bipush dX7_digest_20 (n := 22) rfl (by decide) ?_
    refine z_icmp_ge dX7_digest_22 (n := 25) (tg := 42) rfl (by decide) (by first | assumption | exact ⟨by omega, by omega⟩ | exact zb_zr _) (by first | assumption | exact ⟨by omega, by omega⟩ | exact zb_zr _) (fun c22 => ?_) (fun c22 => ?_)
    · exact K sz' ar' hh hF
    · exfalso; omega
  | succ m ih =>
    intro k sz' ar' hk hh hF
    obtain ⟨e0, e3, e6, e10, e42, e43, e44, e46, e47, e48, e49⟩ := hF.all
    have hC' := hC.h hF
    have hso : soR sz' ar' = soR sz ar := by unfold soR; rw [e6, e46, e47, e48]
    have hr := stV_r (q := k) hC.1 (fun s _ _ => soR_r sz ar s) (s := s) (by omega) hs
    refine z_iload_2 dX7_digest_19 (n := 20) rfl ?_
    refine z_bipush dX7_digest_20 (n := 22) rfl (by decide) ?_
    refine z_icmp_ge dX7_digest_22 (n := 25) (tg := 42) rfl (by decide) (by first | assumption | exact ⟨by omega, by omega⟩ | exact zb_zr _) (by first | assumption | exact ⟨by omega, by omega⟩ | exact zb_zr _) (fun c22 => ?_) (fun c22 => ?_)
    · exfalso; omega
    · refine z_aload_0 dX7_digest_25 (n := 26) rfl ?_
      refine z_aload_0 dX7_digest_26 (n := 27) rfl ?_
      refine z_iload_1 dX7_digest_27 (n := 28) rfl ?_
      refine z_iload_2 dX7_digest_28 (n := 29) rfl ?_
      refine z_callV2i dX7_digest_29 (n := 32) rfl mv_X7_stateNow lk_X7_172 rfl (zrm (by decide) (by decide)) (Nat.le_of_ble_eq_true rfl) (c_X7_stateNow hC' (by omega) (by omega) (by omega) (by omega)) (fun r u hp => ?_)
      obtain ⟨rfl, rfl⟩ := hp
      rw [e0, e42, e43, hso]
      refine z_i2l dX7_digest_32 (n := 33) rfl (by first | assumption | exact ⟨by omega, by omega⟩ | exact zb_zr _) ?_
      refine z_callV1v dX7_digest_33 (n := 36) rfl mv_X7_mix lk_X7_269 rfl (zrm (by decide) (by decide)) (Nat.le_of_ble_eq_true rfl) (c_X7_mix) (fun u hp => ?_)
      subst hp
      refine z_iinc_2 dX7_digest_36 (n := 39) rfl (by decide) (fun w h => by cases h; try rfl) ?_
      refine z_goto dX7_digest_39 (n := 19) (by decide) ?_
      have h9 := ih (k + 1) (zz sz' 41 29 (31 * sz' 41 29 + stV (sz 41 0) (ar 42) (ar 43) (soR sz ar) s k)) ar' (by omega) (by rw [zz_eq, hh]; rfl) (hF.tr (Mh.h _))
      rw [show ((k + 1 : Nat) : Int) = (k : Int) + 1 by omega] at h9
      exact h9
set_option maxHeartbeats 8000000 in
theorem lw_X7_digest {G : zG} {ws : Int → List Int} {sz : zSz} {ar : zAr} {h0 : Int} (hC : MK ws sz ar) (hR : RD ws) (hn : 0 < sz 41 0) {w : Int} (hw0 : 0 ≤ w) (hw1 : w < 3) {P : Option zV → zS → Prop} {y : Option zV} {sz' : zSz} {ar' : zAr} (hh : sz' 41 29 = h0) (hF : Mh sz ar sz' ar')
    (K : ∀ sz2 ar2, sz2 41 29 = dgW (ar 42) (ar 43) (ws w) h0 → Mh sz ar sz2 ar2 → zWP G mX7_digest 7 P 50 [some (zR 41), some (zI (w + 1)), y] [] (X sz2 ar2)) :
    zWP G mX7_digest 7 P 50 [some (zR 41), some (zI w), y] [] (X sz' ar') := by
  obtain ⟨e0, e3, e6, e10, e42, e43, e44, e46, e47, e48, e49⟩ := hF.all
  have hn6 := hC.1.2.1
  refine z_iload_1 dX7_digest_50 (n := 51) rfl ?_
  refine z_iconst dX7_digest_51 (n := 52) rfl ?_
  refine z_icmp_ge dX7_digest_52 (n := 55) (tg := 73) rfl (by decide) (by first | assumption | exact ⟨by omega, by omega⟩ | exact zb_zr _) (by first | assumption | exact ⟨by omega, by omega⟩ | exact zb_zr _) (fun c52 => ?_) (fun c52 => ?_)
  · exfalso; omega
  · refine z_aload_0 dX7_digest_55 (n := 56) rfl ?_
    refine z_get dX7_digest_56 (n := 59) rfl rfl fd_X7_96 rfl ?_
    refine z_if_le dX7_digest_59 (n := 62) (tg := 73) rfl (by decide) (by first | assumption | exact ⟨by omega, by omega⟩ | exact zb_zr _) (fun c59 => ?_) (fun c59 => ?_)
    · exfalso; omega
    · refine z_aload_0 dX7_digest_62 (n := 63) rfl ?_
      refine z_iload_1 dX7_digest_63 (n := 64) rfl ?_
      refine z_callV1v dX7_digest_64 (n := 67) rfl mv_X7_mixWord lk_X7_275 rfl (zrm (by decide) (by decide)) (Nat.le_of_ble_eq_true rfl) (c_X7_mixWord (hC.h hF) hR hw0 hw1) (fun u hp => ?_)
      obtain ⟨sz2, ar2, rfl, hh2, hF2⟩ := hp
      rw [e42, e43, hh] at hh2
      refine z_iinc_1 dX7_digest_67 (n := 70) rfl (by decide) (fun w h => by cases h; try rfl) ?_
      refine z_goto dX7_digest_70 (n := 50) (by decide) ?_
      exact K sz2 ar2 hh2 (hF.tr hF2)
set_option maxHeartbeats 8000000 in
set_option maxHeartbeats 4000000 in
theorem c_X7_digest {G : zG} {sz : zSz} {ar : zAr} {ws : Int → List Int} (hC : MK ws sz ar) (hR : RD ws)  : zSem G mX7_digest 7 [zR 41] (X sz ar) (zpl fun r u => r = dig (sz 41 0) (ar 42) (ar 43) (soR sz ar) ws (ar 49) (ar 44 0 + ar 44 1 + ar 44 2) (sz 41 6) (sz 41 10) (sz 41 3) ∧ ∃ sz' ar', u = X sz' ar' ∧ Mh sz ar sz' ar') := by
  refine z_enter (L' := [some (zR 41), none, none]) (by decide +kernel) (Nat.le_of_ble_eq_true rfl) ⟨2, rfl⟩ ?_
  have hn := hC.1.1
  have hn6 := hC.1.2.1
  have hp0 := hC.2.1.1
  have HO : ∀ (m s : Nat) (sz' : zSz) (ar' : zAr) (y : Option zV), (s : Int) + m = sz 41 0 → sz' 41 29 = stH (sz 41 0) (ar 42) (ar 43) (soR sz ar) s 1471 → Mh sz ar sz' ar' → zWP G mX7_digest 7 (zpl fun r u => r = dig (sz 41 0) (ar 42) (ar 43) (soR sz ar) ws (ar 49) (ar 44 0 + ar 44 1 + ar 44 2) (sz 41 6) (sz 41 10) (sz 41 3) ∧ ∃ sz' ar', u = X sz' ar' ∧ Mh sz ar sz' ar') 9 [some (zR 41), some (zI s), y] [] (X sz' ar') := by
    intro m
    induction m with
    | zero =>
      intro s sz' ar' y hs hh hF
      have es : s = (sz 41 0).toNat := by omega
      subst es
      obtain ⟨e0, e3, e6, e10, e42, e43, e44, e46, e47, e48, e49⟩ := hF.all
      unfold dig
      have H0 : sz 41 0 = 0 → zWP G mX7_digest 7 (zpl fun r u => r = cnH (sz 41 0) (ar 42) (ar 43) (ar 44 0 + ar 44 1 + ar 44 2) (sz 41 6) (sz 41 10) (sz 41 3) 7 (pgH (ar 49) (sz 41 10).toNat (stH (sz 41 0) (ar 42) (ar 43) (soR sz ar) (sz 41 0).toNat 1471)) ∧ ∃ sz' ar', u = X sz' ar' ∧ Mh sz ar sz' ar') 50 [some (zR 41), some (zI 0), y] [] (X sz' ar') := by
        intro hz
        refine z_iload_1 dX7_digest_50 (n := 51) rfl ?_
        refine z_iconst dX7_digest_51 (n := 52) rfl ?_
        refine z_icmp_ge dX7_digest_52 (n := 55) (tg := 73) rfl (by decide) (by first | assumption | exact ⟨by omega, by omega⟩ | exact zb_zr _) (by first | assumption | exact ⟨by omega, by omega⟩ | exact zb_zr _) (fun c52 => ?_) (fun c52 => ?_)
        · exfalso; omega
        · refine z_aload_0 dX7_digest_55 (n := 56) rfl ?_
          refine z_get dX7_digest_56 (n := 59) rfl rfl fd_X7_96 rfl ?_
          refine z_if_le dX7_digest_59 (n := 62) (tg := 73) rfl (by decide) (by first | assumption | exact ⟨by omega, by omega⟩ | exact zb_zr _) (fun c59 => ?_) (fun c59 => ?_)
          · refine z_iconst dX7_digest_73 (n := 74) rfl ?_
            refine z_istore_1 dX7_digest_74 (n := 75) rfl (by decide) (fun w h => by cases h; try rfl) ?_
            exact lp_X7_digest hC (sz 41 10).toNat 0 sz' ar' y (by omega) hh hF
          · exfalso; omega
      have H1 : 0 < sz 41 0 → zWP G mX7_digest 7 (zpl fun r u => r = cnH (sz 41 0) (ar 42) (ar 43) (ar 44 0 + ar 44 1 + ar 44 2) (sz 41 6) (sz 41 10) (sz 41 3) 7 (pgH (ar 49) (sz 41 10).toNat (dgW (ar 42) (ar 43) (ws 2) (dgW (ar 42) (ar 43) (ws 1) (dgW (ar 42) (ar 43) (ws 0) (stH (sz 41 0) (ar 42) (ar 43) (soR sz ar) (sz 41 0).toNat 1471))))) ∧ ∃ sz' ar', u = X sz' ar' ∧ Mh sz ar sz' ar') 50 [some (zR 41), some (zI 0), y] [] (X sz' ar') := by
        intro hz
        refine lw_X7_digest hC hR hz (w := 0) (by omega) (by omega) hh hF ?_
        intro sz2 ar2 hh2 hF2
        rw [show (0 : Int) + 1 = 1 from rfl]
        refine lw_X7_digest hC hR hz (w := 1) (by omega) (by omega) hh2 hF2 ?_
        intro sz3 ar3 hh3 hF3
        rw [show (1 : Int) + 1 = 2 from rfl]
        refine lw_X7_digest hC hR hz (w := 2) (by omega) (by omega) hh3 hF3 ?_
        intro sz4 ar4 hh4 hF4
        rw [show (2 : Int) + 1 = 3 from rfl]
        refine z_iload_1 dX7_digest_50 (n := 51) rfl ?_
        refine z_iconst dX7_digest_51 (n := 52) rfl ?_
        refine z_icmp_ge dX7_digest_52 (n := 55) (tg := 73) rfl (by decide) (by first | assumption | exact ⟨by omega, by omega⟩ | exact zb_zr _) (by first | assumption | exact ⟨by omega, by omega⟩ | exact zb_zr _) (fun c52 => ?_) (fun c52 => ?_)
        · refine z_iconst dX7_digest_73 (n := 74) rfl ?_
          refine z_istore_1 dX7_digest_74 (n := 75) rfl (by decide) (fun w h => by cases h; try rfl) ?_
          exact lp_X7_digest hC (sz 41 10).toNat 0 sz4 ar4 y (by omega) hh4 hF4
        · exfalso; omega
      by_cases hz : 0 < sz 41 0
      · rw [if_pos hz]
        refine z_iload_1 dX7_digest_9 (n := 10) rfl ?_
        refine z_aload_0 dX7_digest_10 (n := 11) rfl ?_
        refine z_get dX7_digest_11 (n := 14) rfl rfl fd_X7_96 rfl ?_
        refine z_icmp_ge dX7_digest_14 (n := 17) (tg := 48) rfl (by decide) (by first | assumption | exact ⟨by omega, by omega⟩ | exact zb_zr _) (by first | assumption | exact ⟨by omega, by omega⟩ | exact zb_zr _) (fun c14 => ?_) (fun c14 => ?_)
        · refine z_iconst dX7_digest_48 (n := 49) rfl ?_
          refine z_istore_1 dX7_digest_49 (n := 50) rfl (by decide) (fun w h => by cases h; try rfl) ?_
          exact H1 hz
        · exfalso; omega
      · rw [if_neg hz]
        refine z_iload_1 dX7_digest_9 (n := 10) rfl ?_
        refine z_aload_0 dX7_digest_10 (n := 11) rfl ?_
        refine z_get dX7_digest_11 (n := 14) rfl rfl fd_X7_96 rfl ?_
        refine z_icmp_ge dX7_digest_14 (n := 17) (tg := 48) rfl (by decide) (by first | assumption | exact ⟨by omega, by omega⟩ | exact zb_zr _) (by first | assumption | exact ⟨by omega, by omega⟩ | exact zb_zr _) (fun c14 => ?_) (fun c14 => ?_)
        · refine z_iconst dX7_digest_48 (n := 49) rfl ?_
          refine z_istore_1 dX7_digest_49 (n := 50) rfl (by decide) (fun w h => by cases h; try rfl) ?_
          exact H0 (by omega)
        · exfalso; omega
    | succ m ih =>
      intro s sz' ar' y hs hh hF
      obtain ⟨e0, e3, e6, e10, e42, e43, e44, e46, e47, e48, e49⟩ := hF.all
      refine z_iload_1 dX7_digest_9 (n := 10) rfl ?_
      refine z_aload_0 dX7_digest_10 (n := 11) rfl ?_
      refine z_get dX7_digest_11 (n := 14) rfl rfl fd_X7_96 rfl ?_
      refine z_icmp_ge dX7_digest_14 (n := 17) (tg := 48) rfl (by decide) (by first | assumption | exact ⟨by omega, by omega⟩ | exact zb_zr _) (by first | assumption | exact ⟨by omega, by omega⟩ | exact zb_zr _) (fun c14 => ?_) (fun c14 => ?_)
      · exfalso; omega
      · refine z_iconst dX7_digest_17 (n := 18) rfl ?_
        refine z_istore_2 dX7_digest_18 (n := 19) rfl (by decide) (fun w h => by cases h; try rfl) ?_
        refine ls_X7_digest hC (by omega) ?_ 8 0 sz' ar' (by omega) hh hF
        intro sz2 ar2 hh2 hF2
        have h9 := ih (s + 1) sz2 ar2 (some (zI 8)) (by omega) hh2 hF2
        rw [show ((s + 1 : Nat) : Int) = (s : Int) + 1 by omega] at h9
        refine z_iinc_1 dX7_digest_42 (n := 45) rfl (by decide) (fun w h => by cases h; try rfl) ?_
        refine z_goto dX7_digest_45 (n := 9) (by decide) ?_
        exact h9
  refine z_aload_0 dX7_digest_0 (n := 1) rfl ?_
  refine z_ldc2 dX7_digest_1 (n := 4) rfl kn_X7_273 ?_
  refine z_putLX dX7_digest_4 (n := 7) rfl rfl fw_X7_266 (by first | decide | simp) rfl ?_
  refine z_iconst dX7_digest_7 (n := 8) rfl ?_
  refine z_istore_1 dX7_digest_8 (n := 9) rfl (by decide) (fun w h => by cases h; try rfl) ?_
  exact HO (sz 41 0).toNat 0 _ _ none (by omega) (by rw [zz_eq]; rfl) (Mh.h _)
