/-! TreeActs: what is told of all -/
set_option maxHeartbeats 4000000 in
theorem c_X6_lettersOfAllWords {G : zG} {sz : zSz} {ar : zAr}  : zSem G mX6_lettersOfAllWords 1 [zR 0] (X sz ar) (zpi fun r u => r = sz 14 1 + sz 16 1 + sz 18 1 ∧ u = X sz ar) := by
  refine z_enter (L' := [some (zR 0), none, none]) (by decide +kernel) (Nat.le_of_ble_eq_true rfl) ⟨2, rfl⟩ ?_
  have i14 : isL 14 := by unfold isL; omega
  have i16 : isL 16 := by unfold isL; omega
  have i18 : isL 18 := by unfold isL; omega
  refine z_iconst dX6_lettersOfAllWords_0 (n := 1) rfl ?_
  refine z_istore_1 dX6_lettersOfAllWords_1 (n := 2) rfl (by decide) (fun w h => by cases h; try rfl) ?_
  refine z_iconst dX6_lettersOfAllWords_2 (n := 3) rfl ?_
  refine z_istore_2 dX6_lettersOfAllWords_3 (n := 4) rfl (by decide) (fun w h => by cases h; try rfl) ?_
  refine z_iload_2 dX6_lettersOfAllWords_4 (n := 5) rfl ?_
  refine z_iconst dX6_lettersOfAllWords_5 (n := 6) rfl ?_
  refine z_icmp_ge dX6_lettersOfAllWords_6 (n := 9) (tg := 27) rfl (by decide) (by first | assumption | exact ⟨by omega, by omega⟩ | exact zb_zr _) (by first | assumption | exact ⟨by omega, by omega⟩ | exact zb_zr _) (fun c6 => ?_) (fun c6 => ?_)
  · exfalso; omega
  · refine z_iload_1 dX6_lettersOfAllWords_9 (n := 10) rfl ?_
    refine z_aload_0 dX6_lettersOfAllWords_10 (n := 11) rfl ?_
    refine z_get dX6_lettersOfAllWords_11 (n := 14) rfl rfl fd_X6_28 rfl ?_
    refine z_iload_2 dX6_lettersOfAllWords_14 (n := 15) rfl ?_
    refine z_aald dX6_lettersOfAllWords_15 (n := 16) rfl rfl (by omega) (by omega) (by decide) ?_
    refine z_callV0i dX6_lettersOfAllWords_16 (n := 19) rfl mv_X1_size lk_X6_115 (XL1 i14) (zrm (by decide) (by decide)) (Nat.le_of_ble_eq_true rfl) (c_X1_size i14) (fun r u hp => ?_)
    obtain ⟨rfl, rfl⟩ := hp
    refine z_iadd dX6_lettersOfAllWords_19 (n := 20) rfl ?_
    refine z_istore_1 dX6_lettersOfAllWords_20 (n := 21) rfl (by decide) (fun w h => by cases h; try rfl) ?_
    refine z_iinc_2 dX6_lettersOfAllWords_21 (n := 24) rfl (by decide) (fun w h => by cases h; try rfl) ?_
    refine z_goto dX6_lettersOfAllWords_24 (n := 4) (by decide) ?_
    rw [show (0 : Int) + 1 = 1 from rfl]
    refine z_iload_2 dX6_lettersOfAllWords_4 (n := 5) rfl ?_
    refine z_iconst dX6_lettersOfAllWords_5 (n := 6) rfl ?_
    refine z_icmp_ge dX6_lettersOfAllWords_6 (n := 9) (tg := 27) rfl (by decide) (by first | assumption | exact ⟨by omega, by omega⟩ | exact zb_zr _) (by first | assumption | exact ⟨by omega, by omega⟩ | exact zb_zr _) (fun c6 => ?_) (fun c6 => ?_)
    · exfalso; omega
    · refine z_iload_1 dX6_lettersOfAllWords_9 (n := 10) rfl ?_
      refine z_aload_0 dX6_lettersOfAllWords_10 (n := 11) rfl ?_
      refine z_get dX6_lettersOfAllWords_11 (n := 14) rfl rfl fd_X6_28 rfl ?_
      refine z_iload_2 dX6_lettersOfAllWords_14 (n := 15) rfl ?_
      refine z_aald dX6_lettersOfAllWords_15 (n := 16) rfl rfl (by omega) (by omega) (by decide) ?_
      refine z_callV0i dX6_lettersOfAllWords_16 (n := 19) rfl mv_X1_size lk_X6_115 (XL1 i16) (zrm (by decide) (by decide)) (Nat.le_of_ble_eq_true rfl) (c_X1_size i16) (fun r u hp => ?_)
      obtain ⟨rfl, rfl⟩ := hp
      refine z_iadd dX6_lettersOfAllWords_19 (n := 20) rfl ?_
      refine z_istore_1 dX6_lettersOfAllWords_20 (n := 21) rfl (by decide) (fun w h => by cases h; try rfl) ?_
      refine z_iinc_2 dX6_lettersOfAllWords_21 (n := 24) rfl (by decide) (fun w h => by cases h; try rfl) ?_
      refine z_goto dX6_lettersOfAllWords_24 (n := 4) (by decide) ?_
      rw [show (1 : Int) + 1 = 2 from rfl]
      refine z_iload_2 dX6_lettersOfAllWords_4 (n := 5) rfl ?_
      refine z_iconst dX6_lettersOfAllWords_5 (n := 6) rfl ?_
      refine z_icmp_ge dX6_lettersOfAllWords_6 (n := 9) (tg := 27) rfl (by decide) (by first | assumption | exact ⟨by omega, by omega⟩ | exact zb_zr _) (by first | assumption | exact ⟨by omega, by omega⟩ | exact zb_zr _) (fun c6 => ?_) (fun c6 => ?_)
      · exfalso; omega
      · refine z_iload_1 dX6_lettersOfAllWords_9 (n := 10) rfl ?_
        refine z_aload_0 dX6_lettersOfAllWords_10 (n := 11) rfl ?_
        refine z_get dX6_lettersOfAllWords_11 (n := 14) rfl rfl fd_X6_28 rfl ?_
        refine z_iload_2 dX6_lettersOfAllWords_14 (n := 15) rfl ?_
        refine z_aald dX6_lettersOfAllWords_15 (n := 16) rfl rfl (by omega) (by omega) (by decide) ?_
        refine z_callV0i dX6_lettersOfAllWords_16 (n := 19) rfl mv_X1_size lk_X6_115 (XL1 i18) (zrm (by decide) (by decide)) (Nat.le_of_ble_eq_true rfl) (c_X1_size i18) (fun r u hp => ?_)
        obtain ⟨rfl, rfl⟩ := hp
        refine z_iadd dX6_lettersOfAllWords_19 (n := 20) rfl ?_
        refine z_istore_1 dX6_lettersOfAllWords_20 (n := 21) rfl (by decide) (fun w h => by cases h; try rfl) ?_
        refine z_iinc_2 dX6_lettersOfAllWords_21 (n := 24) rfl (by decide) (fun w h => by cases h; try rfl) ?_
        refine z_goto dX6_lettersOfAllWords_24 (n := 4) (by decide) ?_
        rw [show (2 : Int) + 1 = 3 from rfl]
        refine z_iload_2 dX6_lettersOfAllWords_4 (n := 5) rfl ?_
        refine z_iconst dX6_lettersOfAllWords_5 (n := 6) rfl ?_
        refine z_icmp_ge dX6_lettersOfAllWords_6 (n := 9) (tg := 27) rfl (by decide) (by first | assumption | exact ⟨by omega, by omega⟩ | exact zb_zr _) (by first | assumption | exact ⟨by omega, by omega⟩ | exact zb_zr _) (fun c6 => ?_) (fun c6 => ?_)
        · refine z_iload_1 dX6_lettersOfAllWords_27 (n := 28) rfl ?_
          refine z_ret_i dX6_lettersOfAllWords_28 rfl ?_
          exact ⟨by show (0 : Int) + sz 14 1 + sz 16 1 + sz 18 1 = sz 14 1 + sz 16 1 + sz 18 1; omega, rfl⟩
        · exfalso; omega
set_option maxHeartbeats 4000000 in
theorem c_X6_count {G : zG} {sz : zSz} {ar : zAr} {ws : Int → List Int} {q : Int} (hq : zr q) (hC : CK ws sz ar)  : zSem G mX6_count 5 [zR 0, zI q] (X sz ar) (zpi fun r u => r = cnV (sz 3 4) (ar 4) (ar 5) (sz 14 1 + sz 16 1 + sz 18 1) (sz 27 1) (sz 1 1) (sz 0 11) q ∧ ∃ sz' ar', u = X sz' ar' ∧ Fg sz ar sz' ar') := by
  refine z_enter (L' := [some (zR 0), some (zI q)]) (by decide +kernel) (Nat.le_of_ble_eq_true rfl) ⟨0, rfl⟩ ?_
  have hM := hC.1
  refine z_iload_1 dX6_count_0 (n := 1) rfl ?_
  refine z_by (0) (fun q1 => ?_) (fun q1_0 => ?_)
  · refine z_tsIn (off := 43) (tg := 44) dX6_count_1 (by first | assumption | exact ⟨by omega, by omega⟩ | exact zb_zr _) (by omega) (by omega) (by rw [q1]; rfl) (by decide) ?_
    refine z_aload_0 dX6_count_44 (n := 45) rfl ?_
    refine z_get dX6_count_45 (n := 48) rfl rfl fd_X6_19 rfl ?_
    refine z_callV0i dX6_count_48 (n := 51) rfl mv_X3_size lk_X6_98 rfl (zrm (by decide) (by decide)) (Nat.le_of_ble_eq_true rfl) (c_X3_size) (fun r u hp => ?_)
    obtain ⟨rfl, rfl⟩ := hp
    refine z_ret_i dX6_count_51 rfl ?_
    exact ⟨by unfold cnV; rw [if_pos q1], _, _, rfl, Fg.rf⟩
  · skip
    refine z_by (1) (fun q1 => ?_) (fun q1_1 => ?_)
    · refine z_tsIn (off := 51) (tg := 52) dX6_count_1 (by first | assumption | exact ⟨by omega, by omega⟩ | exact zb_zr _) (by omega) (by omega) (by rw [q1]; rfl) (by decide) ?_
      refine z_aload_0 dX6_count_52 (n := 53) rfl ?_
      refine z_get dX6_count_53 (n := 56) rfl rfl fd_X6_19 rfl ?_
      refine z_callV0i dX6_count_56 (n := 59) rfl mv_X3_classes lk_X6_216 rfl (zrm (by decide) (by decide)) (Nat.le_of_ble_eq_true rfl) (c_X3_classes hM) (fun r u hp => ?_)
      obtain ⟨rfl, ar2, rfl, hF⟩ := hp
      refine z_ret_i dX6_count_59 rfl ?_
      exact ⟨by unfold cnV; rw [if_neg (by omega), if_pos q1], _, _, rfl, hF.g⟩
    · skip
      refine z_by (2) (fun q1 => ?_) (fun q1_2 => ?_)
      · refine z_tsIn (off := 59) (tg := 60) dX6_count_1 (by first | assumption | exact ⟨by omega, by omega⟩ | exact zb_zr _) (by omega) (by omega) (by rw [q1]; rfl) (by decide) ?_
        refine z_aload_0 dX6_count_60 (n := 61) rfl ?_
        refine z_get dX6_count_61 (n := 64) rfl rfl fd_X6_19 rfl ?_
        refine z_callV0i dX6_count_64 (n := 67) rfl mv_X3_inCore lk_X6_219 rfl (zrm (by decide) (by decide)) (Nat.le_of_ble_eq_true rfl) (c_X3_inCore hM) (fun r u hp => ?_)
        obtain ⟨rfl, rfl⟩ := hp
        refine z_ret_i dX6_count_67 rfl ?_
        exact ⟨by unfold cnV; rw [if_neg (by omega), if_neg (by omega), if_pos q1], _, _, rfl, Fg.rf⟩
      · skip
        refine z_by (3) (fun q1 => ?_) (fun q1_3 => ?_)
        · refine z_tsIn (off := 67) (tg := 68) dX6_count_1 (by first | assumption | exact ⟨by omega, by omega⟩ | exact zb_zr _) (by omega) (by omega) (by rw [q1]; rfl) (by decide) ?_
          refine z_aload_0 dX6_count_68 (n := 69) rfl ?_
          refine z_callV0i dX6_count_69 (n := 72) rfl mv_X6_lettersOfAllWords lk_X6_222 rfl (zrm (by decide) (by decide)) (Nat.le_of_ble_eq_true rfl) (c_X6_lettersOfAllWords) (fun r u hp => ?_)
          obtain ⟨rfl, rfl⟩ := hp
          refine z_ret_i dX6_count_72 rfl ?_
          exact ⟨by unfold cnV; rw [if_neg (by omega), if_neg (by omega), if_neg (by omega), if_pos q1], _, _, rfl, Fg.rf⟩
        · skip
          refine z_by (4) (fun q1 => ?_) (fun q1_4 => ?_)
          · refine z_tsIn (off := 72) (tg := 73) dX6_count_1 (by first | assumption | exact ⟨by omega, by omega⟩ | exact zb_zr _) (by omega) (by omega) (by rw [q1]; rfl) (by decide) ?_
            refine z_aload_0 dX6_count_73 (n := 74) rfl ?_
            refine z_get dX6_count_74 (n := 77) rfl rfl fd_X6_41 rfl ?_
            refine z_callV0i dX6_count_77 (n := 80) rfl mv_X5_size lk_X6_190 rfl (zrm (by decide) (by decide)) (Nat.le_of_ble_eq_true rfl) (c_X5_size) (fun r u hp => ?_)
            obtain ⟨rfl, rfl⟩ := hp
            refine z_ret_i dX6_count_80 rfl ?_
            exact ⟨by unfold cnV; rw [if_neg (by omega), if_neg (by omega), if_neg (by omega), if_neg (by omega), if_pos q1], _, _, rfl, Fg.rf⟩
          · skip
            refine z_by (5) (fun q1 => ?_) (fun q1_5 => ?_)
            · refine z_tsIn (off := 80) (tg := 81) dX6_count_1 (by first | assumption | exact ⟨by omega, by omega⟩ | exact zb_zr _) (by omega) (by omega) (by rw [q1]; rfl) (by decide) ?_
              refine z_aload_0 dX6_count_81 (n := 82) rfl ?_
              refine z_get dX6_count_82 (n := 85) rfl rfl fd_X6_12 rfl ?_
              refine z_callV0i dX6_count_85 (n := 88) rfl mv_X2_size lk_X6_78 rfl (zrm (by decide) (by decide)) (Nat.le_of_ble_eq_true rfl) (c_X2_size) (fun r u hp => ?_)
              obtain ⟨rfl, rfl⟩ := hp
              refine z_ret_i dX6_count_88 rfl ?_
              exact ⟨by unfold cnV; rw [if_neg (by omega), if_neg (by omega), if_neg (by omega), if_neg (by omega), if_neg (by omega), if_pos q1], _, _, rfl, Fg.rf⟩
            · skip
              refine z_by (6) (fun q1 => ?_) (fun q1_6 => ?_)
              · refine z_tsIn (off := 88) (tg := 89) dX6_count_1 (by first | assumption | exact ⟨by omega, by omega⟩ | exact zb_zr _) (by omega) (by omega) (by rw [q1]; rfl) (by decide) ?_
                refine z_aload_0 dX6_count_89 (n := 90) rfl ?_
                refine z_get dX6_count_90 (n := 93) rfl rfl fd_X6_70 rfl ?_
                refine z_ret_i dX6_count_93 rfl ?_
                exact ⟨by unfold cnV; rw [if_neg (by omega), if_neg (by omega), if_neg (by omega), if_neg (by omega), if_neg (by omega), if_neg (by omega), if_pos q1], _, _, rfl, Fg.rf⟩
              · skip
                refine z_tsOut (tg := 94) dX6_count_1 (by first | assumption | exact ⟨by omega, by omega⟩ | exact zb_zr _) (by omega) (by decide) ?_
                refine z_bipush dX6_count_94 (n := 96) rfl (by decide) ?_
                refine z_ret_i dX6_count_96 rfl ?_
                exact ⟨by unfold cnV; rw [if_neg (by omega), if_neg (by omega), if_neg (by omega), if_neg (by omega), if_neg (by omega), if_neg (by omega), if_neg (by omega)], _, _, rfl, Fg.rf⟩
set_option maxHeartbeats 4000000 in
theorem c_X6_state {G : zG} {sz : zSz} {ar : zAr} {ws : Int → List Int} {s q : Int} (hs : zr s) (hq : zr q) (hC : CK ws sz ar)  : zSem G mX6_state 5 [zR 0, zI s, zI q] (X sz ar) (zpi fun r u => r = (if ¬ (0 ≤ s ∧ s < sz 3 4) then -101 else if ¬ (0 ≤ q ∧ q ≤ 7) then -102 else stV (sz 3 4) (ar 4) (ar 5) (ar 28) s q) ∧ ∃ sz' ar', u = X sz' ar' ∧ Fg sz ar sz' ar') := by
  refine z_enter (L' := [some (zR 0), some (zI s), some (zI q)]) (by decide +kernel) (Nat.le_of_ble_eq_true rfl) ⟨0, rfl⟩ ?_
  obtain ⟨hM, ⟨hp0, hp1, hc⟩, hW, ⟨hs0, hs1, hso⟩, hmr⟩ := hC
  have hn := hM.1
  have hn6 := hM.2.1
  refine z_aload_0 dX6_state_0 (n := 1) rfl ?_
  refine z_get dX6_state_1 (n := 4) rfl rfl fd_X6_19 rfl ?_
  refine z_iload_1 dX6_state_4 (n := 5) rfl ?_
  refine z_callV1i dX6_state_5 (n := 8) rfl mv_X3_has lk_X6_116 rfl (zrm (by decide) (by decide)) (Nat.le_of_ble_eq_true rfl) (c_X3_has (by first | assumption | exact ⟨by omega, by omega⟩ | exact zb_zr _) (by first | assumption | exact ⟨by omega, by omega⟩ | exact zb_zr _)) (fun r u hp => ?_)
  obtain ⟨rfl, rfl⟩ := hp
  refine z_ifB_ne dX6_state_8 (n := 11) (tg := 14) rfl (by decide) (fun c8 => ?_) (fun c8 => ?_)
  · rw [if_neg (fun z => z c8)]
    have hss := hso s (by omega) (by omega)
    refine z_iload_2 dX6_state_14 (n := 15) rfl ?_
    refine z_by (0) (fun q15 => ?_) (fun q15_0 => ?_)
    · refine z_tsIn (off := 45) (tg := 60) dX6_state_15 (by first | assumption | exact ⟨by omega, by omega⟩ | exact zb_zr _) (by omega) (by omega) (by rw [q15]; rfl) (by decide) ?_
      refine z_aload_0 dX6_state_60 (n := 61) rfl ?_
      refine z_get dX6_state_61 (n := 64) rfl rfl fd_X6_19 rfl ?_
      refine z_iload_1 dX6_state_64 (n := 65) rfl ?_
      refine z_callV1i dX6_state_65 (n := 68) rfl mv_X3_kindOf lk_X6_119 rfl (zrm (by decide) (by decide)) (Nat.le_of_ble_eq_true rfl) (c_X3_kindOf (by first | assumption | exact ⟨by omega, by omega⟩ | exact zb_zr _) (by omega)) (fun r u hp => ?_)
      obtain ⟨rfl, rfl⟩ := hp
      rw [if_pos c8]
      refine z_ret_i dX6_state_68 rfl ?_
      exact ⟨by rw [if_neg (by omega)]; unfold stV; rw [if_pos q15], _, _, rfl, Fg.rf⟩
    · skip
      refine z_by (1) (fun q15 => ?_) (fun q15_1 => ?_)
      · refine z_tsIn (off := 54) (tg := 69) dX6_state_15 (by first | assumption | exact ⟨by omega, by omega⟩ | exact zb_zr _) (by omega) (by omega) (by rw [q15]; rfl) (by decide) ?_
        refine z_aload_0 dX6_state_69 (n := 70) rfl ?_
        refine z_get dX6_state_70 (n := 73) rfl rfl fd_X6_19 rfl ?_
        refine z_iload_1 dX6_state_73 (n := 74) rfl ?_
        refine z_iconst dX6_state_74 (n := 75) rfl ?_
        refine z_callV2i dX6_state_75 (n := 78) rfl mv_X3_toldNext lk_X6_122 rfl (zrm (by decide) (by decide)) (Nat.le_of_ble_eq_true rfl) (c_X3_toldNext (by omega) (by omega) (by omega) (by omega) (by omega)) (fun r u hp => ?_)
        obtain ⟨rfl, rfl⟩ := hp
        refine z_ret_i dX6_state_78 rfl ?_
        exact ⟨by rw [if_neg (by omega)]; unfold stV; rw [if_neg (by omega), if_pos q15], _, _, rfl, Fg.rf⟩
      · skip
        refine z_by (2) (fun q15 => ?_) (fun q15_2 => ?_)
        · refine z_tsIn (off := 64) (tg := 79) dX6_state_15 (by first | assumption | exact ⟨by omega, by omega⟩ | exact zb_zr _) (by omega) (by omega) (by rw [q15]; rfl) (by decide) ?_
          refine z_aload_0 dX6_state_79 (n := 80) rfl ?_
          refine z_get dX6_state_80 (n := 83) rfl rfl fd_X6_19 rfl ?_
          refine z_iload_1 dX6_state_83 (n := 84) rfl ?_
          refine z_iconst dX6_state_84 (n := 85) rfl ?_
          refine z_callV2i dX6_state_85 (n := 88) rfl mv_X3_toldNext lk_X6_122 rfl (zrm (by decide) (by decide)) (Nat.le_of_ble_eq_true rfl) (c_X3_toldNext (by omega) (by omega) (by omega) (by omega) (by omega)) (fun r u hp => ?_)
          obtain ⟨rfl, rfl⟩ := hp
          refine z_ret_i dX6_state_88 rfl ?_
          exact ⟨by rw [if_neg (by omega)]; unfold stV; rw [if_neg (by omega), if_neg (by omega), if_pos q15], _, _, rfl, Fg.rf⟩
        · skip
          refine z_by (3) (fun q15 => ?_) (fun q15_3 => ?_)
          · refine z_tsIn (off := 74) (tg := 89) dX6_state_15 (by first | assumption | exact ⟨by omega, by omega⟩ | exact zb_zr _) (by omega) (by omega) (by rw [q15]; rfl) (by decide) ?_
            refine z_aload_0 dX6_state_89 (n := 90) rfl ?_
            refine z_get dX6_state_90 (n := 93) rfl rfl fd_X6_19 rfl ?_
            refine z_iload_1 dX6_state_93 (n := 94) rfl ?_
            refine z_callV1i dX6_state_94 (n := 97) rfl mv_X3_reachOf lk_X6_126 rfl (zrm (by decide) (by decide)) (Nat.le_of_ble_eq_true rfl) (c_X3_reachOf (by omega) (by omega) hM) (fun r u hp => ?_)
            obtain ⟨rfl, rfl⟩ := hp
            refine z_ret_i dX6_state_97 rfl ?_
            exact ⟨by rw [if_neg (by omega)]; unfold stV; rw [if_neg (by omega), if_neg (by omega), if_neg (by omega), if_pos q15], _, _, rfl, Fg.rf⟩
          · skip
            refine z_by (4) (fun q15 => ?_) (fun q15_4 => ?_)
            · refine z_tsIn (off := 83) (tg := 98) dX6_state_15 (by first | assumption | exact ⟨by omega, by omega⟩ | exact zb_zr _) (by omega) (by omega) (by rw [q15]; rfl) (by decide) ?_
              refine z_aload_0 dX6_state_98 (n := 99) rfl ?_
              refine z_get dX6_state_99 (n := 102) rfl rfl fd_X6_19 rfl ?_
              refine z_iload_1 dX6_state_102 (n := 103) rfl ?_
              refine z_callV1i dX6_state_103 (n := 106) rfl mv_X3_isInCore lk_X6_129 rfl (zrm (by decide) (by decide)) (Nat.le_of_ble_eq_true rfl) (c_X3_isInCore (by omega) (by omega) hM) (fun r u hp => ?_)
              obtain ⟨rfl, rfl⟩ := hp
              refine z_ifB_eq dX6_state_106 (n := 109) (tg := 113) rfl (by decide) (fun c106 => ?_) (fun c106 => ?_)
              · refine z_iconst dX6_state_113 (n := 114) rfl ?_
                refine z_ret_i dX6_state_114 rfl ?_
                first | exact ⟨by rw [if_neg (by omega)]; unfold stV; rw [if_neg (by omega), if_neg (by omega), if_neg (by omega), if_neg (by omega), if_pos q15, zb_t c106], _, _, rfl, Fg.rf⟩ | exact ⟨by rw [if_neg (by omega)]; unfold stV; rw [if_neg (by omega), if_neg (by omega), if_neg (by omega), if_neg (by omega), if_pos q15, zb_f c106], _, _, rfl, Fg.rf⟩
              · refine z_iconst dX6_state_109 (n := 110) rfl ?_
                refine z_goto dX6_state_110 (n := 114) (by decide) ?_
                refine z_ret_i dX6_state_114 rfl ?_
                first | exact ⟨by rw [if_neg (by omega)]; unfold stV; rw [if_neg (by omega), if_neg (by omega), if_neg (by omega), if_neg (by omega), if_pos q15, zb_t c106], _, _, rfl, Fg.rf⟩ | exact ⟨by rw [if_neg (by omega)]; unfold stV; rw [if_neg (by omega), if_neg (by omega), if_neg (by omega), if_neg (by omega), if_pos q15, zb_f c106], _, _, rfl, Fg.rf⟩
            · skip
              refine z_by (5) (fun q15 => ?_) (fun q15_5 => ?_)
              · refine z_tsIn (off := 100) (tg := 115) dX6_state_15 (by first | assumption | exact ⟨by omega, by omega⟩ | exact zb_zr _) (by omega) (by omega) (by rw [q15]; rfl) (by decide) ?_
                refine z_aload_0 dX6_state_115 (n := 116) rfl ?_
                refine z_get dX6_state_116 (n := 119) rfl rfl fd_X6_19 rfl ?_
                refine z_iload_1 dX6_state_119 (n := 120) rfl ?_
                refine z_callV1i dX6_state_120 (n := 123) rfl mv_X3_leastAlike lk_X6_132 rfl (zrm (by decide) (by decide)) (Nat.le_of_ble_eq_true rfl) (c_X3_leastAlike (by omega) (by omega) hM) (fun r u hp => ?_)
                obtain ⟨rfl, ar2, rfl, hF⟩ := hp
                refine z_ret_i dX6_state_123 rfl ?_
                exact ⟨by rw [if_neg (by omega)]; unfold stV; rw [if_neg (by omega), if_neg (by omega), if_neg (by omega), if_neg (by omega), if_neg (by omega), if_pos q15], _, _, rfl, hF.g⟩
              · skip
                refine z_by (6) (fun q15 => ?_) (fun q15_6 => ?_)
                · refine z_tsIn (off := 109) (tg := 124) dX6_state_15 (by first | assumption | exact ⟨by omega, by omega⟩ | exact zb_zr _) (by omega) (by omega) (by rw [q15]; rfl) (by decide) ?_
                  refine z_aload_0 dX6_state_124 (n := 125) rfl ?_
                  refine z_get dX6_state_125 (n := 128) rfl rfl fd_X6_41 rfl ?_
                  refine z_iload_1 dX6_state_128 (n := 129) rfl ?_
                  refine z_callV1i dX6_state_129 (n := 132) rfl mv_X5_sortsOf lk_X6_135 rfl (zrm (by decide) (by decide)) (Nat.le_of_ble_eq_true rfl) (c_X5_sortsOf (by omega) (by omega)) (fun r u hp => ?_)
                  obtain ⟨rfl, rfl⟩ := hp
                  refine z_ret_i dX6_state_132 rfl ?_
                  exact ⟨by rw [if_neg (by omega)]; unfold stV; rw [if_neg (by omega), if_neg (by omega), if_neg (by omega), if_neg (by omega), if_neg (by omega), if_neg (by omega), if_pos q15], _, _, rfl, Fg.rf⟩
                · skip
                  refine z_by (7) (fun q15 => ?_) (fun q15_7 => ?_)
                  · refine z_tsIn (off := 118) (tg := 133) dX6_state_15 (by first | assumption | exact ⟨by omega, by omega⟩ | exact zb_zr _) (by omega) (by omega) (by rw [q15]; rfl) (by decide) ?_
                    refine z_aload_0 dX6_state_133 (n := 134) rfl ?_
                    refine z_get dX6_state_134 (n := 137) rfl rfl fd_X6_41 rfl ?_
                    refine z_iload_1 dX6_state_137 (n := 138) rfl ?_
                    refine z_callV1i dX6_state_138 (n := 141) rfl mv_X5_sortsOf lk_X6_135 rfl (zrm (by decide) (by decide)) (Nat.le_of_ble_eq_true rfl) (c_X5_sortsOf (by omega) (by omega)) (fun r u hp => ?_)
                    obtain ⟨rfl, rfl⟩ := hp
                    refine z_callS1i dX6_state_141 (n := 144) rfl ms_X6_bestQuestion lk_X6_138 (zrm (by decide) (by decide)) (Nat.le_of_ble_eq_true rfl) (c_X6_bestQuestion (by omega) (by omega)) (fun r u hp => ?_)
                    obtain ⟨rfl, rfl⟩ := hp
                    refine z_ret_i dX6_state_144 rfl ?_
                    exact ⟨by rw [if_neg (by omega)]; unfold stV; rw [if_neg (by omega), if_neg (by omega), if_neg (by omega), if_neg (by omega), if_neg (by omega), if_neg (by omega), if_neg (by omega)], _, _, rfl, Fg.rf⟩
                  · skip
                    refine z_tsOut (tg := 145) dX6_state_15 (by first | assumption | exact ⟨by omega, by omega⟩ | exact zb_zr _) (by omega) (by decide) ?_
                    refine z_bipush dX6_state_145 (n := 147) rfl (by decide) ?_
                    refine z_ret_i dX6_state_147 rfl ?_
                    exact ⟨by rw [if_pos (by omega)], _, _, rfl, Fg.rf⟩
  · refine z_bipush dX6_state_11 (n := 13) rfl (by decide) ?_
    refine z_ret_i dX6_state_13 rfl ?_
    exact ⟨by rw [if_pos c8], _, _, rfl, Fg.rf⟩
/-- an image is kept -/
def PI (ws : Int → List Int) (sz : zSz) (ar : zAr) (u : zS) : Prop := ∃ sz' ar', u = X sz' ar' ∧ sz' 8 4 = sz 3 4 ∧ ar' 9 = zcp (ar 4) (ar 9) 0 0 6 ∧ ar' 10 = zcp (ar 5) (ar 10) 0 0 12 ∧ sz' 29 1 = sz 27 1 ∧ ar' 30 = zcp (ar 28) (ar 30) 0 0 6 ∧
  LR (sz' 21 1) (ar' 22) (ws 0) ∧ LR (sz' 23 1) (ar' 24) (ws 1) ∧ LR (sz' 25 1) (ar' 26) (ws 2) ∧ sz' 0 10 = 1 ∧ sz' 0 11 = sz 0 11 ∧
  (∀ j, j ≠ 0 → j ≠ 8 → j ≠ 29 → j ≠ 21 → j ≠ 23 → j ≠ 25 → sz' j = sz j) ∧ ∀ j, j ≠ 9 → j ≠ 10 → j ≠ 30 → j ≠ 22 → j ≠ 24 → j ≠ 26 → ar' j = ar j
theorem iL14 : isL 14 := by unfold isL; omega
theorem iL16 : isL 16 := by unfold isL; omega
theorem iL18 : isL 18 := by unfold isL; omega
theorem iL21 : isL 21 := by unfold isL; omega
theorem iL23 : isL 23 := by unfold isL; omega
theorem iL25 : isL 25 := by unfold isL; omega
set_option maxHeartbeats 8000000 in
set_option maxHeartbeats 4000000 in
theorem c_X6_image {G : zG} {sz : zSz} {ar : zAr} {ws : Int → List Int} (hC : CK ws sz ar)  : zSem G mX6_image 3 [zR 0] (X sz ar) (zpi fun r u => (sz 3 4 = 0 ∧ r = -103 ∧ u = X sz ar) ∨ (sz 3 4 ≠ 0 ∧ r = sz 3 4 ∧ PI ws sz ar u)) := by
  refine z_enter (L' := [some (zR 0), none]) (by decide +kernel) (Nat.le_of_ble_eq_true rfl) ⟨1, rfl⟩ ?_
  obtain ⟨hM, ⟨hp0, hp1, hc⟩, hW, ⟨hs0, hs1, hso⟩, hmr⟩ := hC
  have hn := hM.1
  have hn6 := hM.2.1
  have L0 : LR (sz 14 1) (ar 15) (ws 0) ∧ (ws 0).length ≤ 16 := ⟨(hW 0 (by omega) (by omega)).1, (hW 0 (by omega) (by omega)).2.2⟩
  have L1 : LR (sz 16 1) (ar 17) (ws 1) ∧ (ws 1).length ≤ 16 := ⟨(hW 1 (by omega) (by omega)).1, (hW 1 (by omega) (by omega)).2.2⟩
  have L2 : LR (sz 18 1) (ar 19) (ws 2) ∧ (ws 2).length ≤ 16 := ⟨(hW 2 (by omega) (by omega)).1, (hW 2 (by omega) (by omega)).2.2⟩
  refine z_aload_0 dX6_image_0 (n := 1) rfl ?_
  refine z_get dX6_image_1 (n := 4) rfl rfl fd_X6_19 rfl ?_
  refine z_callV0i dX6_image_4 (n := 7) rfl mv_X3_size lk_X6_98 rfl (zrm (by decide) (by decide)) (Nat.le_of_ble_eq_true rfl) (c_X3_size) (fun r u hp => ?_)
  obtain ⟨rfl, rfl⟩ := hp
  refine z_if_ne dX6_image_7 (n := 10) (tg := 13) rfl (by decide) (by first | assumption | exact ⟨by omega, by omega⟩ | exact zb_zr _) (fun c7 => ?_) (fun c7 => ?_)
  · refine z_aload_0 dX6_image_13 (n := 14) rfl ?_
    refine z_get dX6_image_14 (n := 17) rfl rfl fd_X6_23 rfl ?_
    refine z_aload_0 dX6_image_17 (n := 18) rfl ?_
    refine z_get dX6_image_18 (n := 21) rfl rfl fd_X6_19 rfl ?_
    refine z_callV1v dX6_image_21 (n := 24) rfl mv_X3_copyFrom lk_X6_210 rfl (zrm (by decide) (by decide)) (Nat.le_of_ble_eq_true rfl) (c_X3_copyFrom_83) (fun u hp => ?_)
    subst hp
    refine z_aload_0 dX6_image_24 (n := 25) rfl ?_
    refine z_get dX6_image_25 (n := 28) rfl rfl fd_X6_45 rfl ?_
    refine z_aload_0 dX6_image_28 (n := 29) rfl ?_
    refine z_get dX6_image_29 (n := 32) rfl rfl fd_X6_41 rfl ?_
    refine z_callV1v dX6_image_32 (n := 35) rfl mv_X5_copyFrom lk_X6_213 rfl (zrm (by decide) (by decide)) (Nat.le_of_ble_eq_true rfl) (c_X5_copyFrom_2927) (fun u hp => ?_)
    subst hp
    refine z_iconst dX6_image_35 (n := 36) rfl ?_
    refine z_istore_1 dX6_image_36 (n := 37) rfl (by decide) (fun w h => by cases h; try rfl) ?_
    refine z_iload_1 dX6_image_37 (n := 38) rfl ?_
    refine z_iconst dX6_image_38 (n := 39) rfl ?_
    refine z_icmp_ge dX6_image_39 (n := 42) (tg := 63) rfl (by decide) (by first | assumption | exact ⟨by omega, by omega⟩ | exact zb_zr _) (by first | assumption | exact ⟨by omega, by omega⟩ | exact zb_zr _) (fun c39 => ?_) (fun c39 => ?_)
    · exfalso; omega
    · refine z_aload_0 dX6_image_42 (n := 43) rfl ?_
      refine z_get dX6_image_43 (n := 46) rfl rfl fd_X6_32 rfl ?_
      refine z_iload_1 dX6_image_46 (n := 47) rfl ?_
      refine z_aald dX6_image_47 (n := 48) rfl rfl (by omega) (by omega) (by decide) ?_
      refine z_aload_0 dX6_image_48 (n := 49) rfl ?_
      refine z_get dX6_image_49 (n := 52) rfl rfl fd_X6_28 rfl ?_
      refine z_iload_1 dX6_image_52 (n := 53) rfl ?_
      refine z_aald dX6_image_53 (n := 54) rfl rfl (by omega) (by omega) (by decide) ?_
      refine z_callV1v dX6_image_54 (n := 57) rfl mv_X1_copyFrom lk_X6_165 (XL1 iL21) (zrm (by decide) (by decide)) (Nat.le_of_ble_eq_true rfl) (c_X1_copyFrom iL21 iL14 (by decide) (ys := ws 0) L0.1 (show _ ≤ 16 from L0.2) (show _ ≤ 16 from L0.2)) (fun u hp => ?_)
      obtain ⟨sz2, ar2, rfl, hL2, hF2⟩ := hp
      have L1b : LR (sz2 16 1) (ar2 17) (ws 1) := by rw [hF2.1 16 (by decide), hF2.2 17 (by decide)]; exact L1.1
      refine z_iinc_1 dX6_image_57 (n := 60) rfl (by decide) (fun w h => by cases h; try rfl) ?_
      refine z_goto dX6_image_60 (n := 37) (by decide) ?_
      rw [show (0 : Int) + 1 = 1 from rfl]
      refine z_iload_1 dX6_image_37 (n := 38) rfl ?_
      refine z_iconst dX6_image_38 (n := 39) rfl ?_
      refine z_icmp_ge dX6_image_39 (n := 42) (tg := 63) rfl (by decide) (by first | assumption | exact ⟨by omega, by omega⟩ | exact zb_zr _) (by first | assumption | exact ⟨by omega, by omega⟩ | exact zb_zr _) (fun c39 => ?_) (fun c39 => ?_)
      · exfalso; omega
      · refine z_aload_0 dX6_image_42 (n := 43) rfl ?_
        refine z_get dX6_image_43 (n := 46) rfl rfl fd_X6_32 rfl ?_
        refine z_iload_1 dX6_image_46 (n := 47) rfl ?_
        refine z_aald dX6_image_47 (n := 48) rfl rfl (by omega) (by omega) (by decide) ?_
        refine z_aload_0 dX6_image_48 (n := 49) rfl ?_
        refine z_get dX6_image_49 (n := 52) rfl rfl fd_X6_28 rfl ?_
        refine z_iload_1 dX6_image_52 (n := 53) rfl ?_
        refine z_aald dX6_image_53 (n := 54) rfl rfl (by omega) (by omega) (by decide) ?_
        refine z_callV1v dX6_image_54 (n := 57) rfl mv_X1_copyFrom lk_X6_165 (XL1 iL23) (zrm (by decide) (by decide)) (Nat.le_of_ble_eq_true rfl) (c_X1_copyFrom iL23 iL16 (by decide) (ys := ws 1) L1b (show _ ≤ 16 from L1.2) (show _ ≤ 16 from L1.2)) (fun u hp => ?_)
        obtain ⟨sz3, ar3, rfl, hL3, hF3⟩ := hp
        have L2b : LR (sz3 18 1) (ar3 19) (ws 2) := by rw [hF3.1 18 (by decide), hF3.2 19 (by decide), hF2.1 18 (by decide), hF2.2 19 (by decide)]; exact L2.1
        refine z_iinc_1 dX6_image_57 (n := 60) rfl (by decide) (fun w h => by cases h; try rfl) ?_
        refine z_goto dX6_image_60 (n := 37) (by decide) ?_
        rw [show (1 : Int) + 1 = 2 from rfl]
        refine z_iload_1 dX6_image_37 (n := 38) rfl ?_
        refine z_iconst dX6_image_38 (n := 39) rfl ?_
        refine z_icmp_ge dX6_image_39 (n := 42) (tg := 63) rfl (by decide) (by first | assumption | exact ⟨by omega, by omega⟩ | exact zb_zr _) (by first | assumption | exact ⟨by omega, by omega⟩ | exact zb_zr _) (fun c39 => ?_) (fun c39 => ?_)
        · exfalso; omega
        · refine z_aload_0 dX6_image_42 (n := 43) rfl ?_
          refine z_get dX6_image_43 (n := 46) rfl rfl fd_X6_32 rfl ?_
          refine z_iload_1 dX6_image_46 (n := 47) rfl ?_
          refine z_aald dX6_image_47 (n := 48) rfl rfl (by omega) (by omega) (by decide) ?_
          refine z_aload_0 dX6_image_48 (n := 49) rfl ?_
          refine z_get dX6_image_49 (n := 52) rfl rfl fd_X6_28 rfl ?_
          refine z_iload_1 dX6_image_52 (n := 53) rfl ?_
          refine z_aald dX6_image_53 (n := 54) rfl rfl (by omega) (by omega) (by decide) ?_
          refine z_callV1v dX6_image_54 (n := 57) rfl mv_X1_copyFrom lk_X6_165 (XL1 iL25) (zrm (by decide) (by decide)) (Nat.le_of_ble_eq_true rfl) (c_X1_copyFrom iL25 iL18 (by decide) (ys := ws 2) L2b (show _ ≤ 16 from L2.2) (show _ ≤ 16 from L2.2)) (fun u hp => ?_)
          obtain ⟨sz4, ar4, rfl, hL4, hF4⟩ := hp
          refine z_iinc_1 dX6_image_57 (n := 60) rfl (by decide) (fun w h => by cases h; try rfl) ?_
          refine z_goto dX6_image_60 (n := 37) (by decide) ?_
          rw [show (2 : Int) + 1 = 3 from rfl]
          refine z_iload_1 dX6_image_37 (n := 38) rfl ?_
          refine z_iconst dX6_image_38 (n := 39) rfl ?_
          refine z_icmp_ge dX6_image_39 (n := 42) (tg := 63) rfl (by decide) (by first | assumption | exact ⟨by omega, by omega⟩ | exact zb_zr _) (by first | assumption | exact ⟨by omega, by omega⟩ | exact zb_zr _) (fun c39 => ?_) (fun c39 => ?_)
          · refine z_aload_0 dX6_image_63 (n := 64) rfl ?_
            refine z_iconst dX6_image_64 (n := 65) rfl ?_
            refine z_putZX dX6_image_65 (n := 68) rfl rfl fw_X6_66 (by decide) (by first | decide | simp) rfl ?_
            refine z_aload_0 dX6_image_68 (n := 69) rfl ?_
            refine z_get dX6_image_69 (n := 72) rfl rfl fd_X6_19 rfl ?_
            refine z_callV0i dX6_image_72 (n := 75) rfl mv_X3_size lk_X6_98 rfl (zrm (by decide) (by decide)) (Nat.le_of_ble_eq_true rfl) (c_X3_size) (fun r u hp => ?_)
            obtain ⟨rfl, rfl⟩ := hp
            rw [zz_ne (by decide), hF4.1 3 (by decide), hF3.1 3 (by decide), hF2.1 3 (by decide), zz_ne (by decide), zz_ne (by decide)]
            refine z_ret_i dX6_image_75 rfl ?_
            refine Or.inr ⟨c7, rfl, _, _, rfl, ?_, ?_, ?_, ?_, ?_, ?_, ?_, ?_, rfl, ?_, ?_, ?_⟩
            · rw [zz_ne (by decide), hF4.1 8 (by decide), hF3.1 8 (by decide), hF2.1 8 (by decide)]; rfl
            · rw [hF4.2 9 (by decide), hF3.2 9 (by decide), hF2.2 9 (by decide)]; rfl
            · rw [hF4.2 10 (by decide), hF3.2 10 (by decide), hF2.2 10 (by decide)]; rfl
            · rw [zz_ne (by decide), hF4.1 29 (by decide), hF3.1 29 (by decide), hF2.1 29 (by decide)]; rfl
            · rw [hF4.2 30 (by decide), hF3.2 30 (by decide), hF2.2 30 (by decide)]; rfl
            · rw [zz_ne (by decide), hF4.1 21 (by decide), hF3.1 21 (by decide), hF4.2 22 (by decide), hF3.2 22 (by decide)]; exact hL2
            · rw [zz_ne (by decide), hF4.1 23 (by decide), hF4.2 24 (by decide)]; exact hL3
            · rw [zz_ne (by decide)]; exact hL4
            · rw [zz_ni (by decide), hF4.1 0 (by decide), hF3.1 0 (by decide), hF2.1 0 (by decide)]; rfl
            · intro j a b c d e f
              rw [zz_ne a, hF4.1 j f, hF3.1 j e, hF2.1 j d, zz_ne c, zz_ne b]
            · intro j a b c d e f
              rw [hF4.2 j f, hF3.2 j e, hF2.2 j d, zq_ne c, zq_ne b, zq_ne a]
          · exfalso; omega
  · refine z_bipush dX6_image_10 (n := 12) rfl (by decide) ?_
    refine z_ret_i dX6_image_12 rfl ?_
    exact Or.inl ⟨c7, rfl, rfl⟩
/-- it goes on from the image -/
def PRe (ks : Int → List Int) (sz : zSz) (ar : zAr) (u : zS) : Prop := ∃ sz' ar', u = X sz' ar' ∧ sz' 3 4 = sz 8 4 ∧ ar' 4 = zcp (ar 9) (ar 4) 0 0 6 ∧ ar' 5 = zcp (ar 10) (ar 5) 0 0 12 ∧ sz' 27 1 = sz 29 1 ∧ ar' 28 = zcp (ar 30) (ar 28) 0 0 6 ∧
  LR (sz' 14 1) (ar' 15) (ks 0) ∧ LR (sz' 16 1) (ar' 17) (ks 1) ∧ LR (sz' 18 1) (ar' 19) (ks 2) ∧
  (∀ j, j ≠ 3 → j ≠ 27 → j ≠ 14 → j ≠ 16 → j ≠ 18 → sz' j = sz j) ∧ ∀ j, j ≠ 4 → j ≠ 5 → j ≠ 28 → j ≠ 15 → j ≠ 17 → j ≠ 19 → ar' j = ar j
set_option maxHeartbeats 8000000 in
set_option maxHeartbeats 4000000 in
theorem c_X6_restore {G : zG} {sz : zSz} {ar : zAr} {ks : Int → List Int} (hk : sz 0 10 = 0 ∨ sz 0 10 = 1) (L0 : sz 0 10 = 1 → LR (sz 21 1) (ar 22) (ks 0) ∧ (ks 0).length ≤ 16) (L1 : sz 0 10 = 1 → LR (sz 23 1) (ar 24) (ks 1) ∧ (ks 1).length ≤ 16) (L2 : sz 0 10 = 1 → LR (sz 25 1) (ar 26) (ks 2) ∧ (ks 2).length ≤ 16)  : zSem G mX6_restore 3 [zR 0] (X sz ar) (zpi fun r u => (sz 0 10 = 0 ∧ r = -103 ∧ u = X sz ar) ∨ (sz 0 10 = 1 ∧ r = sz 8 4 ∧ PRe ks sz ar u)) := by
  refine z_enter (L' := [some (zR 0), none]) (by decide +kernel) (Nat.le_of_ble_eq_true rfl) ⟨1, rfl⟩ ?_
  refine z_aload_0 dX6_restore_0 (n := 1) rfl ?_
  refine z_get dX6_restore_1 (n := 4) rfl rfl fd_X6_66 rfl ?_
  refine z_if_ne dX6_restore_4 (n := 7) (tg := 10) rfl (by decide) (by first | assumption | exact ⟨by omega, by omega⟩ | exact zb_zr _) (fun c4 => ?_) (fun c4 => ?_)
  · have hk1 : sz 0 10 = 1 := by omega
    replace L0 := L0 hk1
    replace L1 := L1 hk1
    replace L2 := L2 hk1
    refine z_aload_0 dX6_restore_10 (n := 11) rfl ?_
    refine z_get dX6_restore_11 (n := 14) rfl rfl fd_X6_19 rfl ?_
    refine z_aload_0 dX6_restore_14 (n := 15) rfl ?_
    refine z_get dX6_restore_15 (n := 18) rfl rfl fd_X6_23 rfl ?_
    refine z_callV1v dX6_restore_18 (n := 21) rfl mv_X3_copyFrom lk_X6_210 rfl (zrm (by decide) (by decide)) (Nat.le_of_ble_eq_true rfl) (c_X3_copyFrom_38) (fun u hp => ?_)
    subst hp
    refine z_aload_0 dX6_restore_21 (n := 22) rfl ?_
    refine z_get dX6_restore_22 (n := 25) rfl rfl fd_X6_41 rfl ?_
    refine z_aload_0 dX6_restore_25 (n := 26) rfl ?_
    refine z_get dX6_restore_26 (n := 29) rfl rfl fd_X6_45 rfl ?_
    refine z_callV1v dX6_restore_29 (n := 32) rfl mv_X5_copyFrom lk_X6_213 rfl (zrm (by decide) (by decide)) (Nat.le_of_ble_eq_true rfl) (c_X5_copyFrom_2729) (fun u hp => ?_)
    subst hp
    refine z_iconst dX6_restore_32 (n := 33) rfl ?_
    refine z_istore_1 dX6_restore_33 (n := 34) rfl (by decide) (fun w h => by cases h; try rfl) ?_
    refine z_iload_1 dX6_restore_34 (n := 35) rfl ?_
    refine z_iconst dX6_restore_35 (n := 36) rfl ?_
    refine z_icmp_ge dX6_restore_36 (n := 39) (tg := 60) rfl (by decide) (by first | assumption | exact ⟨by omega, by omega⟩ | exact zb_zr _) (by first | assumption | exact ⟨by omega, by omega⟩ | exact zb_zr _) (fun c36 => ?_) (fun c36 => ?_)
    · exfalso; omega
    · refine z_aload_0 dX6_restore_39 (n := 40) rfl ?_
      refine z_get dX6_restore_40 (n := 43) rfl rfl fd_X6_28 rfl ?_
      refine z_iload_1 dX6_restore_43 (n := 44) rfl ?_
      refine z_aald dX6_restore_44 (n := 45) rfl rfl (by omega) (by omega) (by decide) ?_
      refine z_aload_0 dX6_restore_45 (n := 46) rfl ?_
      refine z_get dX6_restore_46 (n := 49) rfl rfl fd_X6_32 rfl ?_
      refine z_iload_1 dX6_restore_49 (n := 50) rfl ?_
      refine z_aald dX6_restore_50 (n := 51) rfl rfl (by omega) (by omega) (by decide) ?_
      refine z_callV1v dX6_restore_51 (n := 54) rfl mv_X1_copyFrom lk_X6_165 (XL1 iL14) (zrm (by decide) (by decide)) (Nat.le_of_ble_eq_true rfl) (c_X1_copyFrom iL14 iL21 (by decide) (ys := ks 0) L0.1 (show _ ≤ 16 from L0.2) (show _ ≤ 16 from L0.2)) (fun u hp => ?_)
      obtain ⟨sz2, ar2, rfl, hL2, hF2⟩ := hp
      have L1b : LR (sz2 23 1) (ar2 24) (ks 1) := by rw [hF2.1 23 (by decide), hF2.2 24 (by decide)]; exact L1.1
      refine z_iinc_1 dX6_restore_54 (n := 57) rfl (by decide) (fun w h => by cases h; try rfl) ?_
      refine z_goto dX6_restore_57 (n := 34) (by decide) ?_
      rw [show (0 : Int) + 1 = 1 from rfl]
      refine z_iload_1 dX6_restore_34 (n := 35) rfl ?_
      refine z_iconst dX6_restore_35 (n := 36) rfl ?_
      refine z_icmp_ge dX6_restore_36 (n := 39) (tg := 60) rfl (by decide) (by first | assumption | exact ⟨by omega, by omega⟩ | exact zb_zr _) (by first | assumption | exact ⟨by omega, by omega⟩ | exact zb_zr _) (fun c36 => ?_) (fun c36 => ?_)
      · exfalso; omega
      · refine z_aload_0 dX6_restore_39 (n := 40) rfl ?_
        refine z_get dX6_restore_40 (n := 43) rfl rfl fd_X6_28 rfl ?_
        refine z_iload_1 dX6_restore_43 (n := 44) rfl ?_
        refine z_aald dX6_restore_44 (n := 45) rfl rfl (by omega) (by omega) (by decide) ?_
        refine z_aload_0 dX6_restore_45 (n := 46) rfl ?_
        refine z_get dX6_restore_46 (n := 49) rfl rfl fd_X6_32 rfl ?_
        refine z_iload_1 dX6_restore_49 (n := 50) rfl ?_
        refine z_aald dX6_restore_50 (n := 51) rfl rfl (by omega) (by omega) (by decide) ?_
        refine z_callV1v dX6_restore_51 (n := 54) rfl mv_X1_copyFrom lk_X6_165 (XL1 iL16) (zrm (by decide) (by decide)) (Nat.le_of_ble_eq_true rfl) (c_X1_copyFrom iL16 iL23 (by decide) (ys := ks 1) L1b (show _ ≤ 16 from L1.2) (show _ ≤ 16 from L1.2)) (fun u hp => ?_)
        obtain ⟨sz3, ar3, rfl, hL3, hF3⟩ := hp
        have L2b : LR (sz3 25 1) (ar3 26) (ks 2) := by rw [hF3.1 25 (by decide), hF3.2 26 (by decide), hF2.1 25 (by decide), hF2.2 26 (by decide)]; exact L2.1
        refine z_iinc_1 dX6_restore_54 (n := 57) rfl (by decide) (fun w h => by cases h; try rfl) ?_
        refine z_goto dX6_restore_57 (n := 34) (by decide) ?_
        rw [show (1 : Int) + 1 = 2 from rfl]
        refine z_iload_1 dX6_restore_34 (n := 35) rfl ?_
        refine z_iconst dX6_restore_35 (n := 36) rfl ?_
        refine z_icmp_ge dX6_restore_36 (n := 39) (tg := 60) rfl (by decide) (by first | assumption | exact ⟨by omega, by omega⟩ | exact zb_zr _) (by first | assumption | exact ⟨by omega, by omega⟩ | exact zb_zr _) (fun c36 => ?_) (fun c36 => ?_)
        · exfalso; omega
        · refine z_aload_0 dX6_restore_39 (n := 40) rfl ?_
          refine z_get dX6_restore_40 (n := 43) rfl rfl fd_X6_28 rfl ?_
          refine z_iload_1 dX6_restore_43 (n := 44) rfl ?_
          refine z_aald dX6_restore_44 (n := 45) rfl rfl (by omega) (by omega) (by decide) ?_
          refine z_aload_0 dX6_restore_45 (n := 46) rfl ?_
          refine z_get dX6_restore_46 (n := 49) rfl rfl fd_X6_32 rfl ?_
          refine z_iload_1 dX6_restore_49 (n := 50) rfl ?_
          refine z_aald dX6_restore_50 (n := 51) rfl rfl (by omega) (by omega) (by decide) ?_
          refine z_callV1v dX6_restore_51 (n := 54) rfl mv_X1_copyFrom lk_X6_165 (XL1 iL18) (zrm (by decide) (by decide)) (Nat.le_of_ble_eq_true rfl) (c_X1_copyFrom iL18 iL25 (by decide) (ys := ks 2) L2b (show _ ≤ 16 from L2.2) (show _ ≤ 16 from L2.2)) (fun u hp => ?_)
          obtain ⟨sz4, ar4, rfl, hL4, hF4⟩ := hp
          refine z_iinc_1 dX6_restore_54 (n := 57) rfl (by decide) (fun w h => by cases h; try rfl) ?_
          refine z_goto dX6_restore_57 (n := 34) (by decide) ?_
          rw [show (2 : Int) + 1 = 3 from rfl]
          refine z_iload_1 dX6_restore_34 (n := 35) rfl ?_
          refine z_iconst dX6_restore_35 (n := 36) rfl ?_
          refine z_icmp_ge dX6_restore_36 (n := 39) (tg := 60) rfl (by decide) (by first | assumption | exact ⟨by omega, by omega⟩ | exact zb_zr _) (by first | assumption | exact ⟨by omega, by omega⟩ | exact zb_zr _) (fun c36 => ?_) (fun c36 => ?_)
          · refine z_aload_0 dX6_restore_60 (n := 61) rfl ?_
            refine z_get dX6_restore_61 (n := 64) rfl rfl fd_X6_19 rfl ?_
            refine z_callV0i dX6_restore_64 (n := 67) rfl mv_X3_size lk_X6_98 rfl (zrm (by decide) (by decide)) (Nat.le_of_ble_eq_true rfl) (c_X3_size) (fun r u hp => ?_)
            obtain ⟨rfl, rfl⟩ := hp
            rw [hF4.1 3 (by decide), hF3.1 3 (by decide), hF2.1 3 (by decide), zz_ne (by decide), zz_eq]
            refine z_ret_i dX6_restore_67 rfl ?_
            refine Or.inr ⟨hk1, rfl, _, _, rfl, ?_, ?_, ?_, ?_, ?_, ?_, ?_, ?_, ?_, ?_⟩
            · rw [hF4.1 3 (by decide), hF3.1 3 (by decide), hF2.1 3 (by decide)]; rfl
            · rw [hF4.2 4 (by decide), hF3.2 4 (by decide), hF2.2 4 (by decide)]; rfl
            · rw [hF4.2 5 (by decide), hF3.2 5 (by decide), hF2.2 5 (by decide)]; rfl
            · rw [hF4.1 27 (by decide), hF3.1 27 (by decide), hF2.1 27 (by decide)]; rfl
            · rw [hF4.2 28 (by decide), hF3.2 28 (by decide), hF2.2 28 (by decide)]; rfl
            · rw [hF4.1 14 (by decide), hF3.1 14 (by decide), hF4.2 15 (by decide), hF3.2 15 (by decide)]; exact hL2
            · rw [hF4.1 16 (by decide), hF4.2 17 (by decide)]; exact hL3
            · exact hL4
            · intro j a b c d e
              rw [hF4.1 j e, hF3.1 j d, hF2.1 j c, zz_ne b, zz_ne a]
            · intro j a b c d e f
              rw [hF4.2 j f, hF3.2 j e, hF2.2 j d, zq_ne c, zq_ne b, zq_ne a]
          · exfalso; omega
  · refine z_bipush dX6_restore_7 (n := 9) rfl (by decide) ?_
    refine z_ret_i dX6_restore_9 rfl ?_
    exact Or.inl ⟨c4, rfl, rfl⟩
