/-! TreeActs: what is done -/
set_option maxHeartbeats 4000000 in
theorem c_X6_alike {G : zG} {sz : zSz} {ar : zAr} {ws : Int → List Int} {a b : Int} (ha : zr a) (hb : zr b) (hC : CK ws sz ar)  : zSem G mX6_alike 5 [zR 0, zI a, zI b] (X sz ar) (zpi fun r u => r = (if ¬ (0 ≤ a ∧ a < 3 ∧ 0 < sz 3 4) ∨ ¬ (0 ≤ b ∧ b < 3 ∧ 0 < sz 3 4) then -101 else ntw (ar 4) (ar 5) ((undone (ws b)).foldl red (ws a))) ∧ ∃ sz' ar', u = X sz' ar' ∧ Fg sz ar sz' ar') := by
  refine z_enter (L' := [some (zR 0), some (zI a), some (zI b)]) (by decide +kernel) (Nat.le_of_ble_eq_true rfl) ⟨0, rfl⟩ ?_
  obtain ⟨hM, ⟨hp0, hp1, hc⟩, hW, ⟨hs0, hs1, hso⟩, hmr⟩ := hC
  have hn := hM.1
  have hn6 := hM.2.1
  refine z_aload_0 dX6_alike_0 (n := 1) rfl ?_
  refine z_iload_1 dX6_alike_1 (n := 2) rfl ?_
  refine z_callV1i dX6_alike_2 (n := 5) rfl mv_X6_isActing lk_X6_99 rfl (zrm (by decide) (by decide)) (Nat.le_of_ble_eq_true rfl) (c_X6_isActing (by first | assumption | exact ⟨by omega, by omega⟩ | exact zb_zr _) (by first | assumption | exact ⟨by omega, by omega⟩ | exact zb_zr _)) (fun r u hp => ?_)
  obtain ⟨rfl, rfl⟩ := hp
  refine z_ifB_eq dX6_alike_5 (n := 8) (tg := 16) rfl (by decide) (fun c5 => ?_) (fun c5 => ?_)
  · refine z_bipush dX6_alike_16 (n := 18) rfl (by decide) ?_
    refine z_ret_i dX6_alike_18 rfl ?_
    first | exact ⟨by rw [if_neg (fun z => z.elim (fun y => y c5) (fun y => y c13))], _, _, rfl, (hF4.g (by omega)).tr hF5.g⟩ | exact ⟨by rw [if_pos (Or.inl c5)], _, _, rfl, Fg.rf⟩ | exact ⟨by rw [if_pos (Or.inr c13)], _, _, rfl, Fg.rf⟩
  · refine z_aload_0 dX6_alike_8 (n := 9) rfl ?_
    refine z_iload_2 dX6_alike_9 (n := 10) rfl ?_
    refine z_callV1i dX6_alike_10 (n := 13) rfl mv_X6_isActing lk_X6_99 rfl (zrm (by decide) (by decide)) (Nat.le_of_ble_eq_true rfl) (c_X6_isActing (by first | assumption | exact ⟨by omega, by omega⟩ | exact zb_zr _) (by first | assumption | exact ⟨by omega, by omega⟩ | exact zb_zr _)) (fun r u hp => ?_)
    obtain ⟨rfl, rfl⟩ := hp
    refine z_ifB_ne dX6_alike_13 (n := 16) (tg := 19) rfl (by decide) (fun c13 => ?_) (fun c13 => ?_)
    · have ka := isLw c5.1 c5.2.1
      have kb := isLw c13.1 c13.2.1
      have La := hW a c5.1 c5.2.1
      have Lb := hW b c13.1 c13.2.1
      have ca := capw c5.1 c5.2.1
      have cb := capw c13.1 c13.2.1
      have hfl := foldl_red_len (undone (ws b)) (ws a)
      rw [undone_len] at hfl
      have c38 : cap 38 = 128 := rfl
      refine z_aload_0 dX6_alike_19 (n := 20) rfl ?_
      refine z_get dX6_alike_20 (n := 23) rfl rfl fd_X6_55 rfl ?_
      refine z_aload_0 dX6_alike_23 (n := 24) rfl ?_
      refine z_get dX6_alike_24 (n := 27) rfl rfl fd_X6_28 rfl ?_
      refine z_iload_1 dX6_alike_27 (n := 28) rfl ?_
      refine z_aald dX6_alike_28 (n := 29) rfl rfl (by omega) (by omega) (by decide) ?_
      refine z_callV1v dX6_alike_29 (n := 32) rfl mv_X1_copyFrom lk_X6_165 (XL1 iL38) (zrm (by decide) (by decide)) (Nat.le_of_ble_eq_true rfl) (c_X1_copyFrom iL38 ka (by omega) La.1 (by omega) (by omega)) (fun u hp => ?_)
      obtain ⟨sz2, ar2, rfl, hL2, hF2⟩ := hp
      have Lb2 := hF2.L iL38 kb (by omega) Lb.1
      refine z_aload_0 dX6_alike_32 (n := 33) rfl ?_
      refine z_get dX6_alike_33 (n := 36) rfl rfl fd_X6_55 rfl ?_
      refine z_aload_0 dX6_alike_36 (n := 37) rfl ?_
      refine z_get dX6_alike_37 (n := 40) rfl rfl fd_X6_28 rfl ?_
      refine z_iload_2 dX6_alike_40 (n := 41) rfl ?_
      refine z_aald dX6_alike_41 (n := 42) rfl rfl (by omega) (by omega) (by decide) ?_
      refine z_callV1v dX6_alike_42 (n := 45) rfl mv_X1_addUndone lk_X6_169 (XL1 iL38) (zrm (by decide) (by decide)) (Nat.le_of_ble_eq_true rfl) (c_X1_addUndone iL38 kb (by omega) hL2 (La.2.1.Ls hn6) Lb2 (Lb.2.1.Ls hn6) (by omega) (by omega)) (fun u hp => ?_)
      obtain ⟨sz3, ar3, rfl, hL3, hF3⟩ := hp
      have hF4 := hF2.tr hF3
      obtain ⟨e3, e4, e5⟩ := hF4.pl iL38
      have hM3 : MOK (sz3 3 4) (ar3 4) (ar3 5) := by rw [e3, e4, e5]; exact hM
      refine z_aload_0 dX6_alike_45 (n := 46) rfl ?_
      refine z_get dX6_alike_46 (n := 49) rfl rfl fd_X6_51 rfl ?_
      refine z_aload_0 dX6_alike_49 (n := 50) rfl ?_
      refine z_get dX6_alike_50 (n := 53) rfl rfl fd_X6_19 rfl ?_
      refine z_aload_0 dX6_alike_53 (n := 54) rfl ?_
      refine z_get dX6_alike_54 (n := 57) rfl rfl fd_X6_55 rfl ?_
      refine z_callV2i dX6_alike_57 (n := 60) rfl mv_X4_tellNothing lk_X6_161 rfl (zrm (by decide) (by decide)) (Nat.le_of_ble_eq_true rfl) (c_X4_tellNothing iL38 hM3 hL3 (by rw [e3]; exact Lt.fold Lb.2.1.un La.2.1) (by omega) (by omega)) (fun r u hp => ?_)
      obtain ⟨rfl, sz5, ar5, rfl, hF5⟩ := hp
      rw [e4, e5]
      refine z_ret_i dX6_alike_60 rfl ?_
      first | exact ⟨by rw [if_neg (fun z => z.elim (fun y => y c5) (fun y => y c13))], _, _, rfl, (hF4.g (by omega)).tr hF5.g⟩ | exact ⟨by rw [if_pos (Or.inl c5)], _, _, rfl, Fg.rf⟩ | exact ⟨by rw [if_pos (Or.inr c13)], _, _, rfl, Fg.rf⟩
    · refine z_bipush dX6_alike_16 (n := 18) rfl (by decide) ?_
      refine z_ret_i dX6_alike_18 rfl ?_
      first | exact ⟨by rw [if_neg (fun z => z.elim (fun y => y c5) (fun y => y c13))], _, _, rfl, (hF4.g (by omega)).tr hF5.g⟩ | exact ⟨by rw [if_pos (Or.inl c5)], _, _, rfl, Fg.rf⟩ | exact ⟨by rw [if_pos (Or.inr c13)], _, _, rfl, Fg.rf⟩
theorem ntw_r (kd nx : Int → Int) (w : List Int) : -1 ≤ ntw kd nx w ∧ ntw kd nx w ≤ 1 := bfs_r kd nx 40 [w] 0
set_option maxHeartbeats 4000000 in
theorem lo_X6_order {G : zG} {ws : Int → List Int} {sz : zSz} {ar : zAr} {w : Int} (hC : CK ws sz ar) (h0 : 0 ≤ w) (h1 : w < 3) :
    ∀ (m i : Nat) (sz' : zSz) (ar' : zAr) (y : Option zV), 1 ≤ i → i + m = 9 → LR (sz' 38 1) (ar' 39) (pwr (ws w) (i - 1)) → Fg sz ar sz' ar' →
    zWP G mX6_order 5 (zpi fun r u => r = ordG (ar 4) (ar 5) (ws w) m i ∧ ∃ sz' ar', u = X sz' ar' ∧ Fg sz ar sz' ar') 20 [some (zR 0), some (zI w), some (zI i), y] [] (X sz' ar') := by
  have hk := isLw h0 h1
  have hcp := capw h0 h1
  have c38 : cap 38 = 128 := rfl
  have hL0 := hC.2.2.1 w h0 h1
  intro m
  induction m with
  | zero =>
    intro i sz' ar' y hi0 hi hL hF
    refine z_iload_2 dX6_order_20 (n := 21) rfl ?_
    refine z_bipush dX6_order_21 (n := 23) rfl (by decide) ?_
    refine z_icmp_gt dX6_order_23 (n := 26) (tg := 75) rfl (by decide) (by first | assumption | exact ⟨by omega, by omega⟩ | exact zb_zr _) (by first | assumption | exact ⟨by omega, by omega⟩ | exact zb_zr _) (fun c23 => ?_) (fun c23 => ?_)
    · refine z_iconst dX6_order_75 (n := 76) rfl ?_
      refine z_ret_i dX6_order_76 rfl ?_
      exact ⟨rfl, _, _, rfl, hF⟩
    · exfalso; omega
  | succ m ih =>
    intro i sz' ar' y hi0 hi hL hF
    have hC' := hC.g hF
    have hM' := hC'.1
    have hn6 := hM'.2.1
    have hLw := hC'.2.2.1 w h0 h1
    have e3 : sz' 3 = sz 3 := hF.1 3 (by omega)
    have e4 : ar' 4 = ar 4 := hF.2 4 (by omega) (by omega) (by omega)
    have e5 : ar' 5 = ar 5 := hF.2 5 (by omega) (by omega) (by omega)
    have hpl := pwr_len (ws w) (i - 1)
    have hpl2 := pwr_len (ws w) i
    have hlt := pwr_Lt hLw.2.1 (i - 1)
    have hlt2 := pwr_Lt hLw.2.1 i
    have b1 : (i - 1) * (ws w).length ≤ (i - 1) * 16 := Nat.mul_le_mul_left _ hLw.2.2
    have b2 : i * (ws w).length ≤ i * 16 := Nat.mul_le_mul_left _ hLw.2.2
    have ep : (ws w).foldl red (pwr (ws w) (i - 1)) = pwr (ws w) i := by
      obtain ⟨j, rfl⟩ : ∃ j, i = j + 1 := ⟨i - 1, by omega⟩
      rfl
    have hnr := ntw_r (ar 4) (ar 5) (pwr (ws w) i)
    refine z_iload_2 dX6_order_20 (n := 21) rfl ?_
    refine z_bipush dX6_order_21 (n := 23) rfl (by decide) ?_
    refine z_icmp_gt dX6_order_23 (n := 26) (tg := 75) rfl (by decide) (by first | assumption | exact ⟨by omega, by omega⟩ | exact zb_zr _) (by first | assumption | exact ⟨by omega, by omega⟩ | exact zb_zr _) (fun c23 => ?_) (fun c23 => ?_)
    · exfalso; omega
    · refine z_aload_0 dX6_order_26 (n := 27) rfl ?_
      refine z_get dX6_order_27 (n := 30) rfl rfl fd_X6_55 rfl ?_
      refine z_aload_0 dX6_order_30 (n := 31) rfl ?_
      refine z_get dX6_order_31 (n := 34) rfl rfl fd_X6_28 rfl ?_
      refine z_iload_1 dX6_order_34 (n := 35) rfl ?_
      refine z_aald dX6_order_35 (n := 36) rfl rfl (by omega) (by omega) (by decide) ?_
      refine z_callV1v dX6_order_36 (n := 39) rfl mv_X1_addAll lk_X6_172 (XL1 iL38) (zrm (by decide) (by decide)) (Nat.le_of_ble_eq_true rfl) (c_X1_addAll iL38 hk (by omega) hL (hlt.Ls hn6) hLw.1 (hLw.2.1.Ls hn6) (by omega) (by omega)) (fun u hp => ?_)
      obtain ⟨sz2, ar2, rfl, hL2, hF2⟩ := hp
      rw [ep] at hL2
      have hF3 := hF.tr (hF2.g (by omega))
      obtain ⟨e3b, e4b, e5b⟩ := hF2.pl iL38
      have hM2 : MOK (sz2 3 4) (ar2 4) (ar2 5) := by rw [e3b, e4b, e5b]; exact hM'
      refine z_aload_0 dX6_order_39 (n := 40) rfl ?_
      refine z_get dX6_order_40 (n := 43) rfl rfl fd_X6_51 rfl ?_
      refine z_aload_0 dX6_order_43 (n := 44) rfl ?_
      refine z_get dX6_order_44 (n := 47) rfl rfl fd_X6_19 rfl ?_
      refine z_aload_0 dX6_order_47 (n := 48) rfl ?_
      refine z_get dX6_order_48 (n := 51) rfl rfl fd_X6_55 rfl ?_
      refine z_callV2i dX6_order_51 (n := 54) rfl mv_X4_tellNothing lk_X6_161 rfl (zrm (by decide) (by decide)) (Nat.le_of_ble_eq_true rfl) (c_X4_tellNothing iL38 hM2 hL2 (by rw [e3b]; exact hlt2) (by omega) (by omega)) (fun r u hp => ?_)
      obtain ⟨rfl, sz5, ar5, rfl, hF5⟩ := hp
      rw [e4b, e5b, e4, e5]
      have hL5 : LR (sz5 38 1) (ar5 39) (pwr (ws w) i) := by rw [hF5.1 38 (by decide) (by decide) (by decide), hF5.2 39 (by decide) (by decide) (by decide) (by decide)]; exact hL2
      refine z_istore_3 dX6_order_54 (n := 55) rfl (by decide) (fun w h => by cases h; try rfl) ?_
      refine z_iload_3 dX6_order_55 (n := 56) rfl ?_
      refine z_iconst dX6_order_56 (n := 57) rfl ?_
      refine z_icmp_ne dX6_order_57 (n := 60) (tg := 62) rfl (by decide) (by first | assumption | exact ⟨by omega, by omega⟩ | exact zb_zr _) (by first | assumption | exact ⟨by omega, by omega⟩ | exact zb_zr _) (fun c57 => ?_) (fun c57 => ?_)
      · refine z_iload_3 dX6_order_62 (n := 63) rfl ?_
        refine z_iconst dX6_order_63 (n := 64) rfl ?_
        refine z_icmp_ne dX6_order_64 (n := 67) (tg := 69) rfl (by decide) (by first | assumption | exact ⟨by omega, by omega⟩ | exact zb_zr _) (by first | assumption | exact ⟨by omega, by omega⟩ | exact zb_zr _) (fun c64 => ?_) (fun c64 => ?_)
        · refine z_iinc_2 dX6_order_69 (n := 72) rfl (by decide) (fun w h => by cases h; try rfl) ?_
          refine z_goto dX6_order_72 (n := 20) (by decide) ?_
          have h9 := ih (i + 1) sz5 ar5 (some (zI (ntw (ar 4) (ar 5) (pwr (ws w) i)))) (by omega) (by omega) hL5 (hF3.tr hF5.g)
          rw [show ((i + 1 : Nat) : Int) = (i : Int) + 1 by omega] at h9
          rw [ordG, if_neg c57, if_neg c64]
          exact h9
        · refine z_iconst dX6_order_67 (n := 68) rfl ?_
          refine z_ret_i dX6_order_68 rfl ?_
          first | exact ⟨by rw [ordG, if_pos c57], _, _, rfl, hF3.tr hF5.g⟩ | exact ⟨by rw [ordG, if_neg c57, if_pos c64], _, _, rfl, hF3.tr hF5.g⟩
      · refine z_iload_2 dX6_order_60 (n := 61) rfl ?_
        refine z_ret_i dX6_order_61 rfl ?_
        first | exact ⟨by rw [ordG, if_pos c57], _, _, rfl, hF3.tr hF5.g⟩ | exact ⟨by rw [ordG, if_neg c57, if_pos c64], _, _, rfl, hF3.tr hF5.g⟩
set_option maxHeartbeats 4000000 in
theorem c_X6_order {G : zG} {sz : zSz} {ar : zAr} {ws : Int → List Int} {w : Int} (hw : zr w) (hC : CK ws sz ar)  : zSem G mX6_order 5 [zR 0, zI w] (X sz ar) (zpi fun r u => r = (if ¬ (0 ≤ w ∧ w < 3 ∧ 0 < sz 3 4) then -101 else ordG (ar 4) (ar 5) (ws w) 8 1) ∧ ∃ sz' ar', u = X sz' ar' ∧ Fg sz ar sz' ar') := by
  refine z_enter (L' := [some (zR 0), some (zI w), none, none]) (by decide +kernel) (Nat.le_of_ble_eq_true rfl) ⟨2, rfl⟩ ?_
  have hn := hC.1.1
  have hn6 := hC.1.2.1
  refine z_aload_0 dX6_order_0 (n := 1) rfl ?_
  refine z_iload_1 dX6_order_1 (n := 2) rfl ?_
  refine z_callV1i dX6_order_2 (n := 5) rfl mv_X6_isActing lk_X6_99 rfl (zrm (by decide) (by decide)) (Nat.le_of_ble_eq_true rfl) (c_X6_isActing (by first | assumption | exact ⟨by omega, by omega⟩ | exact zb_zr _) (by first | assumption | exact ⟨by omega, by omega⟩ | exact zb_zr _)) (fun r u hp => ?_)
  obtain ⟨rfl, rfl⟩ := hp
  refine z_ifB_ne dX6_order_5 (n := 8) (tg := 11) rfl (by decide) (fun c5 => ?_) (fun c5 => ?_)
  · refine z_aload_0 dX6_order_11 (n := 12) rfl ?_
    refine z_get dX6_order_12 (n := 15) rfl rfl fd_X6_55 rfl ?_
    refine z_callV0v dX6_order_15 (n := 18) rfl mv_X1_clear lk_X6_96 (XL1 iL38) (zrm (by decide) (by decide)) (Nat.le_of_ble_eq_true rfl) (c_X1_clear iL38) (fun u hp => ?_)
    subst hp
    refine z_iconst dX6_order_18 (n := 19) rfl ?_
    refine z_istore_2 dX6_order_19 (n := 20) rfl (by decide) (fun w h => by cases h; try rfl) ?_
    rw [if_neg (fun z => z c5)]
    exact lo_X6_order hC c5.1 c5.2.1 8 1 _ _ none (by omega) (by omega) (by rw [zz_eq]; exact LR.nil) ⟨fun j a => zz_ne (by omega), fun j _ _ _ => rfl⟩
  · refine z_bipush dX6_order_8 (n := 10) rfl (by decide) ?_
    refine z_ret_i dX6_order_10 rfl ?_
    exact ⟨by rw [if_pos c5], _, _, rfl, Fg.rf⟩
/-- behind it a row of letters holds a word; else only what is never seen has changed -/
def PW (k : Nat) (xs : List Int) (sz : zSz) (ar : zAr) (u : zS) : Prop := ∃ sz1 ar1 sz' ar', Fg sz ar sz1 ar1 ∧ u = X sz' ar' ∧ Fr k sz1 ar1 sz' ar' ∧ LR (sz' k 1) (ar' (k + 1)) xs
set_option maxHeartbeats 4000000 in
theorem c_X6_times {G : zG} {sz : zSz} {ar : zAr} {ws : Int → List Int} {a b t : Int} (ha : zr a) (hb : zr b) (ht : zr t) (hC : CK ws sz ar)  : zSem G mX6_times 3 [zR 0, zI a, zI b, zI t] (X sz ar) (zpi fun r u => (¬ ((0 ≤ a ∧ a < 3 ∧ 0 < sz 3 4) ∧ (0 ≤ b ∧ b < 3 ∧ 0 < sz 3 4) ∧ (0 ≤ t ∧ t < 3 ∧ 0 < sz 3 4)) ∧ r = -101 ∧ u = X sz ar) ∨ (((0 ≤ a ∧ a < 3 ∧ 0 < sz 3 4) ∧ (0 ≤ b ∧ b < 3 ∧ 0 < sz 3 4) ∧ (0 ≤ t ∧ t < 3 ∧ 0 < sz 3 4)) ∧ 16 < ((ws b).foldl red (ws a)).length ∧ r = -104 ∧ ∃ sz' ar', u = X sz' ar' ∧ Fg sz ar sz' ar') ∨ (((0 ≤ a ∧ a < 3 ∧ 0 < sz 3 4) ∧ (0 ≤ b ∧ b < 3 ∧ 0 < sz 3 4) ∧ (0 ≤ t ∧ t < 3 ∧ 0 < sz 3 4)) ∧ ((ws b).foldl red (ws a)).length ≤ 16 ∧ r = ((ws b).foldl red (ws a)).length ∧ PW (14 + 2 * t).toNat ((ws b).foldl red (ws a)) sz ar u)) := by
  refine z_enter (L' := [some (zR 0), some (zI a), some (zI b), some (zI t)]) (by decide +kernel) (Nat.le_of_ble_eq_true rfl) ⟨0, rfl⟩ ?_
  obtain ⟨hM, ⟨hp0, hp1, hc⟩, hW, ⟨hs0, hs1, hso⟩, hmr⟩ := hC
  have hn := hM.1
  have hn6 := hM.2.1
  refine z_aload_0 dX6_times_0 (n := 1) rfl ?_
  refine z_iload_1 dX6_times_1 (n := 2) rfl ?_
  refine z_callV1i dX6_times_2 (n := 5) rfl mv_X6_isActing lk_X6_99 rfl (zrm (by decide) (by decide)) (Nat.le_of_ble_eq_true rfl) (c_X6_isActing (by first | assumption | exact ⟨by omega, by omega⟩ | exact zb_zr _) (by first | assumption | exact ⟨by omega, by omega⟩ | exact zb_zr _)) (fun r u hp => ?_)
  obtain ⟨rfl, rfl⟩ := hp
  refine z_ifB_eq dX6_times_5 (n := 8) (tg := 24) rfl (by decide) (fun c5 => ?_) (fun c5 => ?_)
  · refine z_bipush dX6_times_24 (n := 26) rfl (by decide) ?_
    refine z_ret_i dX6_times_26 rfl ?_
    first | exact Or.inl ⟨fun z => c5 z.1, rfl, rfl⟩ | exact Or.inl ⟨fun z => c13 z.2.1, rfl, rfl⟩ | exact Or.inl ⟨fun z => c21 z.2.2, rfl, rfl⟩ | exact Or.inr (Or.inl ⟨⟨c5, c13, c21⟩, by omega, rfl, _, _, rfl, hF4⟩) | exact Or.inr (Or.inr ⟨⟨c5, c13, c21⟩, by omega, hl3, sz3, ar3, sz5, ar5, hF4, rfl, hF5, hL5⟩)
  · refine z_aload_0 dX6_times_8 (n := 9) rfl ?_
    refine z_iload_2 dX6_times_9 (n := 10) rfl ?_
    refine z_callV1i dX6_times_10 (n := 13) rfl mv_X6_isActing lk_X6_99 rfl (zrm (by decide) (by decide)) (Nat.le_of_ble_eq_true rfl) (c_X6_isActing (by first | assumption | exact ⟨by omega, by omega⟩ | exact zb_zr _) (by first | assumption | exact ⟨by omega, by omega⟩ | exact zb_zr _)) (fun r u hp => ?_)
    obtain ⟨rfl, rfl⟩ := hp
    refine z_ifB_eq dX6_times_13 (n := 16) (tg := 24) rfl (by decide) (fun c13 => ?_) (fun c13 => ?_)
    · refine z_bipush dX6_times_24 (n := 26) rfl (by decide) ?_
      refine z_ret_i dX6_times_26 rfl ?_
      first | exact Or.inl ⟨fun z => c5 z.1, rfl, rfl⟩ | exact Or.inl ⟨fun z => c13 z.2.1, rfl, rfl⟩ | exact Or.inl ⟨fun z => c21 z.2.2, rfl, rfl⟩ | exact Or.inr (Or.inl ⟨⟨c5, c13, c21⟩, by omega, rfl, _, _, rfl, hF4⟩) | exact Or.inr (Or.inr ⟨⟨c5, c13, c21⟩, by omega, hl3, sz3, ar3, sz5, ar5, hF4, rfl, hF5, hL5⟩)
    · refine z_aload_0 dX6_times_16 (n := 17) rfl ?_
      refine z_iload_3 dX6_times_17 (n := 18) rfl ?_
      refine z_callV1i dX6_times_18 (n := 21) rfl mv_X6_isActing lk_X6_99 rfl (zrm (by decide) (by decide)) (Nat.le_of_ble_eq_true rfl) (c_X6_isActing (by first | assumption | exact ⟨by omega, by omega⟩ | exact zb_zr _) (by first | assumption | exact ⟨by omega, by omega⟩ | exact zb_zr _)) (fun r u hp => ?_)
      obtain ⟨rfl, rfl⟩ := hp
      refine z_ifB_ne dX6_times_21 (n := 24) (tg := 27) rfl (by decide) (fun c21 => ?_) (fun c21 => ?_)
      · have ka := isLw c5.1 c5.2.1
        have kb := isLw c13.1 c13.2.1
        have kt := isLw c21.1 c21.2.1
        have La := hW a c5.1 c5.2.1
        have Lb := hW b c13.1 c13.2.1
        have ca := capw c5.1 c5.2.1
        have cb := capw c13.1 c13.2.1
        have ct := capw c21.1 c21.2.1
        have hfl := foldl_red_len (ws b) (ws a)
        have c38 : cap 38 = 128 := rfl
        refine z_aload_0 dX6_times_27 (n := 28) rfl ?_
        refine z_get dX6_times_28 (n := 31) rfl rfl fd_X6_55 rfl ?_
        refine z_aload_0 dX6_times_31 (n := 32) rfl ?_
        refine z_get dX6_times_32 (n := 35) rfl rfl fd_X6_28 rfl ?_
        refine z_iload_1 dX6_times_35 (n := 36) rfl ?_
        refine z_aald dX6_times_36 (n := 37) rfl rfl (by omega) (by omega) (by decide) ?_
        refine z_callV1v dX6_times_37 (n := 40) rfl mv_X1_copyFrom lk_X6_165 (XL1 iL38) (zrm (by decide) (by decide)) (Nat.le_of_ble_eq_true rfl) (c_X1_copyFrom iL38 ka (by omega) La.1 (by omega) (by omega)) (fun u hp => ?_)
        obtain ⟨sz2, ar2, rfl, hL2, hF2⟩ := hp
        have Lb2 := hF2.L iL38 kb (by omega) Lb.1
        refine z_aload_0 dX6_times_40 (n := 41) rfl ?_
        refine z_get dX6_times_41 (n := 44) rfl rfl fd_X6_55 rfl ?_
        refine z_aload_0 dX6_times_44 (n := 45) rfl ?_
        refine z_get dX6_times_45 (n := 48) rfl rfl fd_X6_28 rfl ?_
        refine z_iload_2 dX6_times_48 (n := 49) rfl ?_
        refine z_aald dX6_times_49 (n := 50) rfl rfl (by omega) (by omega) (by decide) ?_
        refine z_callV1v dX6_times_50 (n := 53) rfl mv_X1_addAll lk_X6_172 (XL1 iL38) (zrm (by decide) (by decide)) (Nat.le_of_ble_eq_true rfl) (c_X1_addAll iL38 kb (by omega) hL2 (La.2.1.Ls hn6) Lb2 (Lb.2.1.Ls hn6) (by omega) (by omega)) (fun u hp => ?_)
        obtain ⟨sz3, ar3, rfl, hL3, hF3⟩ := hp
        have hF4 := (hF2.tr hF3).g (by omega)
        have hl3 := hL3.1
        refine z_aload_0 dX6_times_53 (n := 54) rfl ?_
        refine z_get dX6_times_54 (n := 57) rfl rfl fd_X6_55 rfl ?_
        refine z_callV0i dX6_times_57 (n := 60) rfl mv_X1_size lk_X6_115 (XL1 iL38) (zrm (by decide) (by decide)) (Nat.le_of_ble_eq_true rfl) (c_X1_size iL38) (fun r u hp => ?_)
        obtain ⟨rfl, rfl⟩ := hp
        refine z_bipush dX6_times_60 (n := 62) rfl (by decide) ?_
        refine z_icmp_le dX6_times_62 (n := 65) (tg := 68) rfl (by decide) (by first | assumption | exact ⟨by omega, by omega⟩ | exact zb_zr _) (by first | assumption | exact ⟨by omega, by omega⟩ | exact zb_zr _) (fun c62 => ?_) (fun c62 => ?_)
        · refine z_aload_0 dX6_times_68 (n := 69) rfl ?_
          refine z_get dX6_times_69 (n := 72) rfl rfl fd_X6_28 rfl ?_
          refine z_iload_3 dX6_times_72 (n := 73) rfl ?_
          refine z_aald dX6_times_73 (n := 74) rfl rfl (by omega) (by omega) (by decide) ?_
          refine z_aload_0 dX6_times_74 (n := 75) rfl ?_
          refine z_get dX6_times_75 (n := 78) rfl rfl fd_X6_55 rfl ?_
          refine z_callV1v dX6_times_78 (n := 81) rfl mv_X1_copyFrom lk_X6_165 (XL1 kt) (zrm (by decide) (by decide)) (Nat.le_of_ble_eq_true rfl) (c_X1_copyFrom kt iL38 (by omega) hL3 (by omega) (by omega)) (fun u hp => ?_)
          obtain ⟨sz5, ar5, rfl, hL5, hF5⟩ := hp
          refine z_aload_0 dX6_times_81 (n := 82) rfl ?_
          refine z_get dX6_times_82 (n := 85) rfl rfl fd_X6_55 rfl ?_
          refine z_callV0i dX6_times_85 (n := 88) rfl mv_X1_size lk_X6_115 (XL1 iL38) (zrm (by decide) (by decide)) (Nat.le_of_ble_eq_true rfl) (c_X1_size iL38) (fun r u hp => ?_)
          obtain ⟨rfl, rfl⟩ := hp
          rw [hF5.1 38 (by omega)]
          refine z_ret_i dX6_times_88 rfl ?_
          first | exact Or.inl ⟨fun z => c5 z.1, rfl, rfl⟩ | exact Or.inl ⟨fun z => c13 z.2.1, rfl, rfl⟩ | exact Or.inl ⟨fun z => c21 z.2.2, rfl, rfl⟩ | exact Or.inr (Or.inl ⟨⟨c5, c13, c21⟩, by omega, rfl, _, _, rfl, hF4⟩) | exact Or.inr (Or.inr ⟨⟨c5, c13, c21⟩, by omega, hl3, sz3, ar3, sz5, ar5, hF4, rfl, hF5, hL5⟩)
        · refine z_bipush dX6_times_65 (n := 67) rfl (by decide) ?_
          refine z_ret_i dX6_times_67 rfl ?_
          first | exact Or.inl ⟨fun z => c5 z.1, rfl, rfl⟩ | exact Or.inl ⟨fun z => c13 z.2.1, rfl, rfl⟩ | exact Or.inl ⟨fun z => c21 z.2.2, rfl, rfl⟩ | exact Or.inr (Or.inl ⟨⟨c5, c13, c21⟩, by omega, rfl, _, _, rfl, hF4⟩) | exact Or.inr (Or.inr ⟨⟨c5, c13, c21⟩, by omega, hl3, sz3, ar3, sz5, ar5, hF4, rfl, hF5, hL5⟩)
      · refine z_bipush dX6_times_24 (n := 26) rfl (by decide) ?_
        refine z_ret_i dX6_times_26 rfl ?_
        first | exact Or.inl ⟨fun z => c5 z.1, rfl, rfl⟩ | exact Or.inl ⟨fun z => c13 z.2.1, rfl, rfl⟩ | exact Or.inl ⟨fun z => c21 z.2.2, rfl, rfl⟩ | exact Or.inr (Or.inl ⟨⟨c5, c13, c21⟩, by omega, rfl, _, _, rfl, hF4⟩) | exact Or.inr (Or.inr ⟨⟨c5, c13, c21⟩, by omega, hl3, sz3, ar3, sz5, ar5, hF4, rfl, hF5, hL5⟩)
set_option maxHeartbeats 4000000 in
theorem c_X6_undo {G : zG} {sz : zSz} {ar : zAr} {ws : Int → List Int} {a t : Int} (ha : zr a) (ht : zr t) (hC : CK ws sz ar)  : zSem G mX6_undo 3 [zR 0, zI a, zI t] (X sz ar) (zpi fun r u => (¬ ((0 ≤ a ∧ a < 3 ∧ 0 < sz 3 4) ∧ (0 ≤ t ∧ t < 3 ∧ 0 < sz 3 4)) ∧ r = -101 ∧ u = X sz ar) ∨ (((0 ≤ a ∧ a < 3 ∧ 0 < sz 3 4) ∧ (0 ≤ t ∧ t < 3 ∧ 0 < sz 3 4)) ∧ r = ((undone (ws a)).foldl red []).length ∧ PW (14 + 2 * t).toNat ((undone (ws a)).foldl red []) sz ar u)) := by
  refine z_enter (L' := [some (zR 0), some (zI a), some (zI t)]) (by decide +kernel) (Nat.le_of_ble_eq_true rfl) ⟨0, rfl⟩ ?_
  obtain ⟨hM, ⟨hp0, hp1, hc⟩, hW, ⟨hs0, hs1, hso⟩, hmr⟩ := hC
  have hn := hM.1
  have hn6 := hM.2.1
  refine z_aload_0 dX6_undo_0 (n := 1) rfl ?_
  refine z_iload_1 dX6_undo_1 (n := 2) rfl ?_
  refine z_callV1i dX6_undo_2 (n := 5) rfl mv_X6_isActing lk_X6_99 rfl (zrm (by decide) (by decide)) (Nat.le_of_ble_eq_true rfl) (c_X6_isActing (by first | assumption | exact ⟨by omega, by omega⟩ | exact zb_zr _) (by first | assumption | exact ⟨by omega, by omega⟩ | exact zb_zr _)) (fun r u hp => ?_)
  obtain ⟨rfl, rfl⟩ := hp
  refine z_ifB_eq dX6_undo_5 (n := 8) (tg := 16) rfl (by decide) (fun c5 => ?_) (fun c5 => ?_)
  · refine z_bipush dX6_undo_16 (n := 18) rfl (by decide) ?_
    refine z_ret_i dX6_undo_18 rfl ?_
    first | exact Or.inl ⟨fun z => c5 z.1, rfl, rfl⟩ | exact Or.inl ⟨fun z => c13 z.2, rfl, rfl⟩ | exact Or.inr ⟨⟨c5, c13⟩, hl3, sz3, ar3, sz5, ar5, hF4, rfl, hF5, hL5⟩
  · refine z_aload_0 dX6_undo_8 (n := 9) rfl ?_
    refine z_iload_2 dX6_undo_9 (n := 10) rfl ?_
    refine z_callV1i dX6_undo_10 (n := 13) rfl mv_X6_isActing lk_X6_99 rfl (zrm (by decide) (by decide)) (Nat.le_of_ble_eq_true rfl) (c_X6_isActing (by first | assumption | exact ⟨by omega, by omega⟩ | exact zb_zr _) (by first | assumption | exact ⟨by omega, by omega⟩ | exact zb_zr _)) (fun r u hp => ?_)
    obtain ⟨rfl, rfl⟩ := hp
    refine z_ifB_ne dX6_undo_13 (n := 16) (tg := 19) rfl (by decide) (fun c13 => ?_) (fun c13 => ?_)
    · have ka := isLw c5.1 c5.2.1
      have kt := isLw c13.1 c13.2.1
      have La := hW a c5.1 c5.2.1
      have ca := capw c5.1 c5.2.1
      have ct := capw c13.1 c13.2.1
      have hfl := foldl_red_len (undone (ws a)) []
      rw [undone_len] at hfl
      have c38 : cap 38 = 128 := rfl
      simp only [List.length_nil] at hfl
      refine z_aload_0 dX6_undo_19 (n := 20) rfl ?_
      refine z_get dX6_undo_20 (n := 23) rfl rfl fd_X6_55 rfl ?_
      refine z_callV0v dX6_undo_23 (n := 26) rfl mv_X1_clear lk_X6_96 (XL1 iL38) (zrm (by decide) (by decide)) (Nat.le_of_ble_eq_true rfl) (c_X1_clear iL38) (fun u hp => ?_)
      subst hp
      have hF0 : Fr 38 sz ar (zz sz 38 1 0) ar := ⟨fun i hi => zz_ne hi, fun i hi => rfl⟩
      have La2 := hF0.L iL38 ka (by omega) La.1
      have hL0 : LR (zz sz 38 1 0 38 1) (ar 39) [] := by rw [zz_eq]; exact LR.nil
      refine z_aload_0 dX6_undo_26 (n := 27) rfl ?_
      refine z_get dX6_undo_27 (n := 30) rfl rfl fd_X6_55 rfl ?_
      refine z_aload_0 dX6_undo_30 (n := 31) rfl ?_
      refine z_get dX6_undo_31 (n := 34) rfl rfl fd_X6_28 rfl ?_
      refine z_iload_1 dX6_undo_34 (n := 35) rfl ?_
      refine z_aald dX6_undo_35 (n := 36) rfl rfl (by omega) (by omega) (by decide) ?_
      refine z_callV1v dX6_undo_36 (n := 39) rfl mv_X1_addUndone lk_X6_169 (XL1 iL38) (zrm (by decide) (by decide)) (Nat.le_of_ble_eq_true rfl) (c_X1_addUndone iL38 ka (by omega) hL0 Ls.nil La2 (La.2.1.Ls hn6) (by omega) (by simp only [List.length_nil]; omega)) (fun u hp => ?_)
      obtain ⟨sz3, ar3, rfl, hL3, hF3⟩ := hp
      have hF4 := (hF0.tr hF3).g (by omega)
      have hl3 := hL3.1
      refine z_aload_0 dX6_undo_39 (n := 40) rfl ?_
      refine z_get dX6_undo_40 (n := 43) rfl rfl fd_X6_28 rfl ?_
      refine z_iload_2 dX6_undo_43 (n := 44) rfl ?_
      refine z_aald dX6_undo_44 (n := 45) rfl rfl (by omega) (by omega) (by decide) ?_
      refine z_aload_0 dX6_undo_45 (n := 46) rfl ?_
      refine z_get dX6_undo_46 (n := 49) rfl rfl fd_X6_55 rfl ?_
      refine z_callV1v dX6_undo_49 (n := 52) rfl mv_X1_copyFrom lk_X6_165 (XL1 kt) (zrm (by decide) (by decide)) (Nat.le_of_ble_eq_true rfl) (c_X1_copyFrom kt iL38 (by omega) hL3 (by omega) (by omega)) (fun u hp => ?_)
      obtain ⟨sz5, ar5, rfl, hL5, hF5⟩ := hp
      refine z_aload_0 dX6_undo_52 (n := 53) rfl ?_
      refine z_get dX6_undo_53 (n := 56) rfl rfl fd_X6_55 rfl ?_
      refine z_callV0i dX6_undo_56 (n := 59) rfl mv_X1_size lk_X6_115 (XL1 iL38) (zrm (by decide) (by decide)) (Nat.le_of_ble_eq_true rfl) (c_X1_size iL38) (fun r u hp => ?_)
      obtain ⟨rfl, rfl⟩ := hp
      rw [hF5.1 38 (by omega)]
      refine z_ret_i dX6_undo_59 rfl ?_
      first | exact Or.inl ⟨fun z => c5 z.1, rfl, rfl⟩ | exact Or.inl ⟨fun z => c13 z.2, rfl, rfl⟩ | exact Or.inr ⟨⟨c5, c13⟩, hl3, sz3, ar3, sz5, ar5, hF4, rfl, hF5, hL5⟩
    · refine z_bipush dX6_undo_16 (n := 18) rfl (by decide) ?_
      refine z_ret_i dX6_undo_18 rfl ?_
      first | exact Or.inl ⟨fun z => c5 z.1, rfl, rfl⟩ | exact Or.inl ⟨fun z => c13 z.2, rfl, rfl⟩ | exact Or.inr ⟨⟨c5, c13⟩, hl3, sz3, ar3, sz5, ar5, hF4, rfl, hF5, hL5⟩
set_option maxHeartbeats 4000000 in
theorem c_X6_section {G : zG} {sz : zSz} {ar : zAr} {ws : Int → List Int} {a b t : Int} (ha : zr a) (hb : zr b) (ht : zr t) (hC : CK ws sz ar)  : zSem G mX6_section 4 [zR 0, zI a, zI b, zI t] (X sz ar) (zpi fun r u => (¬ ((0 ≤ a ∧ a < 3 ∧ 0 < sz 3 4) ∧ (0 ≤ t ∧ t < 3 ∧ 0 < sz 3 4)) ∧ r = -101 ∧ u = X sz ar) ∨ (((0 ≤ a ∧ a < 3 ∧ 0 < sz 3 4) ∧ (0 ≤ t ∧ t < 3 ∧ 0 < sz 3 4)) ∧ ¬ (b = 0 ∨ b = 1) ∧ r = -102 ∧ u = X sz ar) ∨ (((0 ≤ a ∧ a < 3 ∧ 0 < sz 3 4) ∧ (0 ≤ t ∧ t < 3 ∧ 0 < sz 3 4)) ∧ (b = 0 ∨ b = 1) ∧ r = (sec (ar 4) (ar 5) (ws a) b).length ∧ PW (14 + 2 * t).toNat (sec (ar 4) (ar 5) (ws a) b) sz ar u)) := by
  refine z_enter (L' := [some (zR 0), some (zI a), some (zI b), some (zI t)]) (by decide +kernel) (Nat.le_of_ble_eq_true rfl) ⟨0, rfl⟩ ?_
  obtain ⟨hM, ⟨hp0, hp1, hc⟩, hW, ⟨hs0, hs1, hso⟩, hmr⟩ := hC
  have hn := hM.1
  have hn6 := hM.2.1
  refine z_aload_0 dX6_section_0 (n := 1) rfl ?_
  refine z_iload_1 dX6_section_1 (n := 2) rfl ?_
  refine z_callV1i dX6_section_2 (n := 5) rfl mv_X6_isActing lk_X6_99 rfl (zrm (by decide) (by decide)) (Nat.le_of_ble_eq_true rfl) (c_X6_isActing (by first | assumption | exact ⟨by omega, by omega⟩ | exact zb_zr _) (by first | assumption | exact ⟨by omega, by omega⟩ | exact zb_zr _)) (fun r u hp => ?_)
  obtain ⟨rfl, rfl⟩ := hp
  refine z_ifB_eq dX6_section_5 (n := 8) (tg := 16) rfl (by decide) (fun c5 => ?_) (fun c5 => ?_)
  · refine z_bipush dX6_section_16 (n := 18) rfl (by decide) ?_
    refine z_ret_i dX6_section_18 rfl ?_
    first | exact Or.inl ⟨fun z => c5 z.1, rfl, rfl⟩ | exact Or.inl ⟨fun z => c13 z.2, rfl, rfl⟩ | exact Or.inr (Or.inl ⟨⟨c5, c13⟩, c23, rfl, rfl⟩) | exact Or.inr (Or.inr ⟨⟨c5, c13⟩, c23, hl3, sz3, ar3, sz5, ar5, hF4, rfl, hF5, hL5⟩)
  · refine z_aload_0 dX6_section_8 (n := 9) rfl ?_
    refine z_iload_3 dX6_section_9 (n := 10) rfl ?_
    refine z_callV1i dX6_section_10 (n := 13) rfl mv_X6_isActing lk_X6_99 rfl (zrm (by decide) (by decide)) (Nat.le_of_ble_eq_true rfl) (c_X6_isActing (by first | assumption | exact ⟨by omega, by omega⟩ | exact zb_zr _) (by first | assumption | exact ⟨by omega, by omega⟩ | exact zb_zr _)) (fun r u hp => ?_)
    obtain ⟨rfl, rfl⟩ := hp
    refine z_ifB_ne dX6_section_13 (n := 16) (tg := 19) rfl (by decide) (fun c13 => ?_) (fun c13 => ?_)
    · refine z_iload_2 dX6_section_19 (n := 20) rfl ?_
      refine z_callS1i dX6_section_20 (n := 23) rfl ms_X6_isSign lk_X6_175 (zrm (by decide) (by decide)) (Nat.le_of_ble_eq_true rfl) (c_X6_isSign (by first | assumption | exact ⟨by omega, by omega⟩ | exact zb_zr _)) (fun r u hp => ?_)
      obtain ⟨rfl, rfl⟩ := hp
      refine z_ifB_ne dX6_section_23 (n := 26) (tg := 29) rfl (by decide) (fun c23 => ?_) (fun c23 => ?_)
      · have ka := isLw c5.1 c5.2.1
        have kt := isLw c13.1 c13.2.1
        have La := hW a c5.1 c5.2.1
        have ca := capw c5.1 c5.2.1
        have ct := capw c13.1 c13.2.1
        have hso := sec_ok hM La.2.1 (b := b) (by omega) (by omega)
        have c38 : cap 38 = 128 := rfl
        refine z_aload_0 dX6_section_29 (n := 30) rfl ?_
        refine z_get dX6_section_30 (n := 33) rfl rfl fd_X6_19 rfl ?_
        refine z_aload_0 dX6_section_33 (n := 34) rfl ?_
        refine z_get dX6_section_34 (n := 37) rfl rfl fd_X6_28 rfl ?_
        refine z_iload_1 dX6_section_37 (n := 38) rfl ?_
        refine z_aald dX6_section_38 (n := 39) rfl rfl (by omega) (by omega) (by decide) ?_
        refine z_iload_2 dX6_section_39 (n := 40) rfl ?_
        refine z_aload_0 dX6_section_40 (n := 41) rfl ?_
        refine z_get dX6_section_41 (n := 44) rfl rfl fd_X6_55 rfl ?_
        refine z_callV3v dX6_section_44 (n := 47) rfl mv_X3_putSection lk_X6_178 rfl (zrm (by decide) (by decide)) (Nat.le_of_ble_eq_true rfl) (c_X3_putSection ka iL38 (by omega) hM La.1 La.2.1 (by omega) (by omega) (by omega) (by omega)) (fun u hp => ?_)
        obtain ⟨sz3, ar3, rfl, hL3, hF3⟩ := hp
        have hF4 := hF3.g (by omega)
        have hl3 := hL3.1
        refine z_aload_0 dX6_section_47 (n := 48) rfl ?_
        refine z_get dX6_section_48 (n := 51) rfl rfl fd_X6_28 rfl ?_
        refine z_iload_3 dX6_section_51 (n := 52) rfl ?_
        refine z_aald dX6_section_52 (n := 53) rfl rfl (by omega) (by omega) (by decide) ?_
        refine z_aload_0 dX6_section_53 (n := 54) rfl ?_
        refine z_get dX6_section_54 (n := 57) rfl rfl fd_X6_55 rfl ?_
        refine z_callV1v dX6_section_57 (n := 60) rfl mv_X1_copyFrom lk_X6_165 (XL1 kt) (zrm (by decide) (by decide)) (Nat.le_of_ble_eq_true rfl) (c_X1_copyFrom kt iL38 (by omega) hL3 (by omega) (by omega)) (fun u hp => ?_)
        obtain ⟨sz5, ar5, rfl, hL5, hF5⟩ := hp
        refine z_aload_0 dX6_section_60 (n := 61) rfl ?_
        refine z_get dX6_section_61 (n := 64) rfl rfl fd_X6_55 rfl ?_
        refine z_callV0i dX6_section_64 (n := 67) rfl mv_X1_size lk_X6_115 (XL1 iL38) (zrm (by decide) (by decide)) (Nat.le_of_ble_eq_true rfl) (c_X1_size iL38) (fun r u hp => ?_)
        obtain ⟨rfl, rfl⟩ := hp
        rw [hF5.1 38 (by omega)]
        refine z_ret_i dX6_section_67 rfl ?_
        first | exact Or.inl ⟨fun z => c5 z.1, rfl, rfl⟩ | exact Or.inl ⟨fun z => c13 z.2, rfl, rfl⟩ | exact Or.inr (Or.inl ⟨⟨c5, c13⟩, c23, rfl, rfl⟩) | exact Or.inr (Or.inr ⟨⟨c5, c13⟩, c23, hl3, sz3, ar3, sz5, ar5, hF4, rfl, hF5, hL5⟩)
      · refine z_bipush dX6_section_26 (n := 28) rfl (by decide) ?_
        refine z_ret_i dX6_section_28 rfl ?_
        first | exact Or.inl ⟨fun z => c5 z.1, rfl, rfl⟩ | exact Or.inl ⟨fun z => c13 z.2, rfl, rfl⟩ | exact Or.inr (Or.inl ⟨⟨c5, c13⟩, c23, rfl, rfl⟩) | exact Or.inr (Or.inr ⟨⟨c5, c13⟩, c23, hl3, sz3, ar3, sz5, ar5, hF4, rfl, hF5, hL5⟩)
    · refine z_bipush dX6_section_16 (n := 18) rfl (by decide) ?_
      refine z_ret_i dX6_section_18 rfl ?_
      first | exact Or.inl ⟨fun z => c5 z.1, rfl, rfl⟩ | exact Or.inl ⟨fun z => c13 z.2, rfl, rfl⟩ | exact Or.inr (Or.inl ⟨⟨c5, c13⟩, c23, rfl, rfl⟩) | exact Or.inr (Or.inr ⟨⟨c5, c13⟩, c23, hl3, sz3, ar3, sz5, ar5, hF4, rfl, hF5, hL5⟩)
set_option maxHeartbeats 4000000 in
theorem c_X6_aim {G : zG} {sz : zSz} {ar : zAr} {s b t : Int} (hs : zr s) (hb : zr b) (ht : zr t) (hM : MOK (sz 3 4) (ar 4) (ar 5))  : zSem G mX6_aim 2 [zR 0, zI s, zI b, zI t] (X sz ar) (zpi fun r u => (¬ ((0 ≤ s ∧ s < sz 3 4) ∧ (t = -1 ∨ (0 ≤ t ∧ t < sz 3 4))) ∧ r = -101 ∧ u = X sz ar) ∨ (((0 ≤ s ∧ s < sz 3 4) ∧ (t = -1 ∨ (0 ≤ t ∧ t < sz 3 4))) ∧ ¬ (b = 0 ∨ b = 1) ∧ r = -102 ∧ u = X sz ar) ∨ (((0 ≤ s ∧ s < sz 3 4) ∧ (t = -1 ∨ (0 ≤ t ∧ t < sz 3 4))) ∧ (b = 0 ∨ b = 1) ∧ r = ar 5 (2 * s + b) ∧ u = X sz (zq ar 5 (zf (ar 5) (2 * s + b) t)))) := by
  refine z_enter (L' := [some (zR 0), some (zI s), some (zI b), some (zI t), none]) (by decide +kernel) (Nat.le_of_ble_eq_true rfl) ⟨1, rfl⟩ ?_
  have hn := hM.1
  have hn6 := hM.2.1
  refine z_aload_0 dX6_aim_0 (n := 1) rfl ?_
  refine z_get dX6_aim_1 (n := 4) rfl rfl fd_X6_19 rfl ?_
  refine z_iload_1 dX6_aim_4 (n := 5) rfl ?_
  refine z_callV1i dX6_aim_5 (n := 8) rfl mv_X3_has lk_X6_116 rfl (zrm (by decide) (by decide)) (Nat.le_of_ble_eq_true rfl) (c_X3_has (by first | assumption | exact ⟨by omega, by omega⟩ | exact zb_zr _) (by first | assumption | exact ⟨by omega, by omega⟩ | exact zb_zr _)) (fun r u hp => ?_)
  obtain ⟨rfl, rfl⟩ := hp
  refine z_ifB_eq dX6_aim_8 (n := 11) (tg := 27) rfl (by decide) (fun c8 => ?_) (fun c8 => ?_)
  · refine z_bipush dX6_aim_27 (n := 29) rfl (by decide) ?_
    refine z_ret_i dX6_aim_29 rfl ?_
    first | exact Or.inl ⟨by omega, rfl, rfl⟩ | exact Or.inr (Or.inl ⟨by omega, by omega, rfl, rfl⟩) | exact Or.inr (Or.inr ⟨by omega, by omega, rfl, rfl⟩)
  · refine z_iload_3 dX6_aim_11 (n := 12) rfl ?_
    refine z_iconst dX6_aim_12 (n := 13) rfl ?_
    refine z_icmp_eq dX6_aim_13 (n := 16) (tg := 30) rfl (by decide) (by first | assumption | exact ⟨by omega, by omega⟩ | exact zb_zr _) (by first | assumption | exact ⟨by omega, by omega⟩ | exact zb_zr _) (fun c13 => ?_) (fun c13 => ?_)
    · refine z_iload_2 dX6_aim_30 (n := 31) rfl ?_
      refine z_callS1i dX6_aim_31 (n := 34) rfl ms_X6_isSign lk_X6_175 (zrm (by decide) (by decide)) (Nat.le_of_ble_eq_true rfl) (c_X6_isSign (by first | assumption | exact ⟨by omega, by omega⟩ | exact zb_zr _)) (fun r u hp => ?_)
      obtain ⟨rfl, rfl⟩ := hp
      refine z_ifB_ne dX6_aim_34 (n := 37) (tg := 40) rfl (by decide) (fun c34 => ?_) (fun c34 => ?_)
      · refine z_aload_0 dX6_aim_40 (n := 41) rfl ?_
        refine z_get dX6_aim_41 (n := 44) rfl rfl fd_X6_19 rfl ?_
        refine z_iload_1 dX6_aim_44 (n := 45) rfl ?_
        refine z_iload_2 dX6_aim_45 (n := 46) rfl ?_
        refine z_callV2i dX6_aim_46 (n := 49) rfl mv_X3_toldNext lk_X6_122 rfl (zrm (by decide) (by decide)) (Nat.le_of_ble_eq_true rfl) (c_X3_toldNext (by omega) (by omega) (by omega) (by omega) (by omega)) (fun r u hp => ?_)
        obtain ⟨rfl, rfl⟩ := hp
        refine z_istore_4 dX6_aim_49 (n := 51) rfl (by decide) (fun w h => by cases h; try rfl) ?_
        refine z_aload_0 dX6_aim_51 (n := 52) rfl ?_
        refine z_get dX6_aim_52 (n := 55) rfl rfl fd_X6_19 rfl ?_
        refine z_iload_1 dX6_aim_55 (n := 56) rfl ?_
        refine z_iload_2 dX6_aim_56 (n := 57) rfl ?_
        refine z_iload_3 dX6_aim_57 (n := 58) rfl ?_
        refine z_callV3v dX6_aim_58 (n := 61) rfl mv_X3_setNext lk_X6_182 rfl (zrm (by decide) (by decide)) (Nat.le_of_ble_eq_true rfl) (c_X3_setNext (by omega) (by omega) (by omega) (by omega) (by omega)) (fun u hp => ?_)
        subst hp
        refine z_iload_4 dX6_aim_61 (n := 63) rfl ?_
        refine z_ret_i dX6_aim_63 rfl ?_
        first | exact Or.inl ⟨by omega, rfl, rfl⟩ | exact Or.inr (Or.inl ⟨by omega, by omega, rfl, rfl⟩) | exact Or.inr (Or.inr ⟨by omega, by omega, rfl, rfl⟩)
      · refine z_bipush dX6_aim_37 (n := 39) rfl (by decide) ?_
        refine z_ret_i dX6_aim_39 rfl ?_
        first | exact Or.inl ⟨by omega, rfl, rfl⟩ | exact Or.inr (Or.inl ⟨by omega, by omega, rfl, rfl⟩) | exact Or.inr (Or.inr ⟨by omega, by omega, rfl, rfl⟩)
    · refine z_aload_0 dX6_aim_16 (n := 17) rfl ?_
      refine z_get dX6_aim_17 (n := 20) rfl rfl fd_X6_19 rfl ?_
      refine z_iload_3 dX6_aim_20 (n := 21) rfl ?_
      refine z_callV1i dX6_aim_21 (n := 24) rfl mv_X3_has lk_X6_116 rfl (zrm (by decide) (by decide)) (Nat.le_of_ble_eq_true rfl) (c_X3_has (by first | assumption | exact ⟨by omega, by omega⟩ | exact zb_zr _) (by first | assumption | exact ⟨by omega, by omega⟩ | exact zb_zr _)) (fun r u hp => ?_)
      obtain ⟨rfl, rfl⟩ := hp
      refine z_ifB_ne dX6_aim_24 (n := 27) (tg := 30) rfl (by decide) (fun c24 => ?_) (fun c24 => ?_)
      · refine z_iload_2 dX6_aim_30 (n := 31) rfl ?_
        refine z_callS1i dX6_aim_31 (n := 34) rfl ms_X6_isSign lk_X6_175 (zrm (by decide) (by decide)) (Nat.le_of_ble_eq_true rfl) (c_X6_isSign (by first | assumption | exact ⟨by omega, by omega⟩ | exact zb_zr _)) (fun r u hp => ?_)
        obtain ⟨rfl, rfl⟩ := hp
        refine z_ifB_ne dX6_aim_34 (n := 37) (tg := 40) rfl (by decide) (fun c34 => ?_) (fun c34 => ?_)
        · refine z_aload_0 dX6_aim_40 (n := 41) rfl ?_
          refine z_get dX6_aim_41 (n := 44) rfl rfl fd_X6_19 rfl ?_
          refine z_iload_1 dX6_aim_44 (n := 45) rfl ?_
          refine z_iload_2 dX6_aim_45 (n := 46) rfl ?_
          refine z_callV2i dX6_aim_46 (n := 49) rfl mv_X3_toldNext lk_X6_122 rfl (zrm (by decide) (by decide)) (Nat.le_of_ble_eq_true rfl) (c_X3_toldNext (by omega) (by omega) (by omega) (by omega) (by omega)) (fun r u hp => ?_)
          obtain ⟨rfl, rfl⟩ := hp
          refine z_istore_4 dX6_aim_49 (n := 51) rfl (by decide) (fun w h => by cases h; try rfl) ?_
          refine z_aload_0 dX6_aim_51 (n := 52) rfl ?_
          refine z_get dX6_aim_52 (n := 55) rfl rfl fd_X6_19 rfl ?_
          refine z_iload_1 dX6_aim_55 (n := 56) rfl ?_
          refine z_iload_2 dX6_aim_56 (n := 57) rfl ?_
          refine z_iload_3 dX6_aim_57 (n := 58) rfl ?_
          refine z_callV3v dX6_aim_58 (n := 61) rfl mv_X3_setNext lk_X6_182 rfl (zrm (by decide) (by decide)) (Nat.le_of_ble_eq_true rfl) (c_X3_setNext (by omega) (by omega) (by omega) (by omega) (by omega)) (fun u hp => ?_)
          subst hp
          refine z_iload_4 dX6_aim_61 (n := 63) rfl ?_
          refine z_ret_i dX6_aim_63 rfl ?_
          first | exact Or.inl ⟨by omega, rfl, rfl⟩ | exact Or.inr (Or.inl ⟨by omega, by omega, rfl, rfl⟩) | exact Or.inr (Or.inr ⟨by omega, by omega, rfl, rfl⟩)
        · refine z_bipush dX6_aim_37 (n := 39) rfl (by decide) ?_
          refine z_ret_i dX6_aim_39 rfl ?_
          first | exact Or.inl ⟨by omega, rfl, rfl⟩ | exact Or.inr (Or.inl ⟨by omega, by omega, rfl, rfl⟩) | exact Or.inr (Or.inr ⟨by omega, by omega, rfl, rfl⟩)
      · refine z_bipush dX6_aim_27 (n := 29) rfl (by decide) ?_
        refine z_ret_i dX6_aim_29 rfl ?_
        first | exact Or.inl ⟨by omega, rfl, rfl⟩ | exact Or.inr (Or.inl ⟨by omega, by omega, rfl, rfl⟩) | exact Or.inr (Or.inr ⟨by omega, by omega, rfl, rfl⟩)
set_option maxHeartbeats 4000000 in
theorem c_X6_change {G : zG} {sz : zSz} {ar : zAr} {s k : Int} (hs : zr s) (hk : zr k) (hM : MOK (sz 3 4) (ar 4) (ar 5))  : zSem G mX6_change 2 [zR 0, zI s, zI k] (X sz ar) (zpi fun r u => (¬ (0 ≤ s ∧ s < sz 3 4) ∧ r = -101 ∧ u = X sz ar) ∨ ((0 ≤ s ∧ s < sz 3 4) ∧ ¬ (0 ≤ k ∧ k < 5) ∧ r = -102 ∧ u = X sz ar) ∨ ((0 ≤ s ∧ s < sz 3 4) ∧ (0 ≤ k ∧ k < 5) ∧ r = ar 4 s ∧ u = X sz (zq ar 4 (zf (ar 4) s k)))) := by
  refine z_enter (L' := [some (zR 0), some (zI s), some (zI k), none]) (by decide +kernel) (Nat.le_of_ble_eq_true rfl) ⟨1, rfl⟩ ?_
  have hn := hM.1
  have hn6 := hM.2.1
  refine z_aload_0 dX6_change_0 (n := 1) rfl ?_
  refine z_get dX6_change_1 (n := 4) rfl rfl fd_X6_19 rfl ?_
  refine z_iload_1 dX6_change_4 (n := 5) rfl ?_
  refine z_callV1i dX6_change_5 (n := 8) rfl mv_X3_has lk_X6_116 rfl (zrm (by decide) (by decide)) (Nat.le_of_ble_eq_true rfl) (c_X3_has (by first | assumption | exact ⟨by omega, by omega⟩ | exact zb_zr _) (by first | assumption | exact ⟨by omega, by omega⟩ | exact zb_zr _)) (fun r u hp => ?_)
  obtain ⟨rfl, rfl⟩ := hp
  refine z_ifB_ne dX6_change_8 (n := 11) (tg := 14) rfl (by decide) (fun c8 => ?_) (fun c8 => ?_)
  · refine z_iload_2 dX6_change_14 (n := 15) rfl ?_
    refine z_callS1i dX6_change_15 (n := 18) rfl ms_X6_isKind lk_X6_141 (zrm (by decide) (by decide)) (Nat.le_of_ble_eq_true rfl) (c_X6_isKind (by first | assumption | exact ⟨by omega, by omega⟩ | exact zb_zr _)) (fun r u hp => ?_)
    obtain ⟨rfl, rfl⟩ := hp
    refine z_ifB_ne dX6_change_18 (n := 21) (tg := 24) rfl (by decide) (fun c18 => ?_) (fun c18 => ?_)
    · refine z_aload_0 dX6_change_24 (n := 25) rfl ?_
      refine z_get dX6_change_25 (n := 28) rfl rfl fd_X6_19 rfl ?_
      refine z_iload_1 dX6_change_28 (n := 29) rfl ?_
      refine z_callV1i dX6_change_29 (n := 32) rfl mv_X3_kindOf lk_X6_119 rfl (zrm (by decide) (by decide)) (Nat.le_of_ble_eq_true rfl) (c_X3_kindOf (by first | assumption | exact ⟨by omega, by omega⟩ | exact zb_zr _) (by omega)) (fun r u hp => ?_)
      obtain ⟨rfl, rfl⟩ := hp
      rw [if_pos c8]
      refine z_istore_3 dX6_change_32 (n := 33) rfl (by decide) (fun w h => by cases h; try rfl) ?_
      refine z_aload_0 dX6_change_33 (n := 34) rfl ?_
      refine z_get dX6_change_34 (n := 37) rfl rfl fd_X6_19 rfl ?_
      refine z_iload_1 dX6_change_37 (n := 38) rfl ?_
      refine z_iload_2 dX6_change_38 (n := 39) rfl ?_
      refine z_callV2v dX6_change_39 (n := 42) rfl mv_X3_setKind lk_X6_186 rfl (zrm (by decide) (by decide)) (Nat.le_of_ble_eq_true rfl) (c_X3_setKind (by omega) (by omega) (by omega)) (fun u hp => ?_)
      subst hp
      refine z_iload_3 dX6_change_42 (n := 43) rfl ?_
      refine z_ret_i dX6_change_43 rfl ?_
      first | exact Or.inl ⟨by omega, rfl, rfl⟩ | exact Or.inr (Or.inl ⟨by omega, by omega, rfl, rfl⟩) | exact Or.inr (Or.inr ⟨by omega, by omega, rfl, rfl⟩)
    · refine z_bipush dX6_change_21 (n := 23) rfl (by decide) ?_
      refine z_ret_i dX6_change_23 rfl ?_
      first | exact Or.inl ⟨by omega, rfl, rfl⟩ | exact Or.inr (Or.inl ⟨by omega, by omega, rfl, rfl⟩) | exact Or.inr (Or.inr ⟨by omega, by omega, rfl, rfl⟩)
  · refine z_bipush dX6_change_11 (n := 13) rfl (by decide) ?_
    refine z_ret_i dX6_change_13 rfl ?_
    first | exact Or.inl ⟨by omega, rfl, rfl⟩ | exact Or.inr (Or.inl ⟨by omega, by omega, rfl, rfl⟩) | exact Or.inr (Or.inr ⟨by omega, by omega, rfl, rfl⟩)
def msk (q c : Int) : Int := if c = 0 then 31 - zsy q else zsy q
theorem mN_all {q : Int} (h0 : 0 ≤ q) (h1 : q < 4) : (Int32.ofInt 31 &&& Int32.ofInt (Int32.ofInt (zsy q) ^^^ Int32.ofInt (-1)).toInt).toInt = 31 - zsy q := by
  have : q = 0 ∨ q = 1 ∨ q = 2 ∨ q = 3 := by omega
  rcases this with rfl | rfl | rfl | rfl <;> decide +kernel
theorem msk_r (q c : Int) : 0 ≤ msk q c ∧ msk q c < 32 := by
  have := zsy_r q
  unfold msk
  split <;> omega
set_option maxHeartbeats 4000000 in
theorem c_X6_see {G : zG} {sz : zSz} {ar : zAr} {s q c : Int} (hs : zr s) (hq : zr q) (hcc : c = 0 ∨ c = 1) (hM : MOK (sz 3 4) (ar 4) (ar 5)) (hs0 : 0 ≤ sz 27 1) (hs1 : sz 27 1 ≤ 6) (hso : ∀ s, 0 ≤ s → s < 6 → 0 ≤ ar 28 s ∧ ar 28 s < 32)  : zSem G mX6_see 1 [zR 0, zI s, zI q, zI c] (X sz ar) (zpi fun r u => (¬ (0 ≤ s ∧ s < sz 3 4) ∧ r = -101 ∧ u = X sz ar) ∨ ((0 ≤ s ∧ s < sz 3 4) ∧ ¬ (0 ≤ q ∧ q < 4) ∧ r = -102 ∧ u = X sz ar) ∨ ((0 ≤ s ∧ s < sz 3 4) ∧ (0 ≤ q ∧ q < 4) ∧ 6 ≤ sz 27 1 ∧ r = -104 ∧ u = X sz ar) ∨ ((0 ≤ s ∧ s < sz 3 4) ∧ (0 ≤ q ∧ q < 4) ∧ sz 27 1 < 6 ∧ r = sz 27 1 + 1 ∧ u = X (zz sz 27 1 (sz 27 1 + 1)) (zq ar 28 (zf (ar 28) s (zand (ar 28 s) (msk q c)))))) := by
  refine z_enter (L' := [some (zR 0), some (zI s), some (zI q), some (zI c)]) (by decide +kernel) (Nat.le_of_ble_eq_true rfl) ⟨0, rfl⟩ ?_
  have hn := hM.1
  have hn6 := hM.2.1
  have hsy := zsy_r q
  refine z_aload_0 dX6_see_0 (n := 1) rfl ?_
  refine z_get dX6_see_1 (n := 4) rfl rfl fd_X6_19 rfl ?_
  refine z_iload_1 dX6_see_4 (n := 5) rfl ?_
  refine z_callV1i dX6_see_5 (n := 8) rfl mv_X3_has lk_X6_116 rfl (zrm (by decide) (by decide)) (Nat.le_of_ble_eq_true rfl) (c_X3_has (by first | assumption | exact ⟨by omega, by omega⟩ | exact zb_zr _) (by first | assumption | exact ⟨by omega, by omega⟩ | exact zb_zr _)) (fun r u hp => ?_)
  obtain ⟨rfl, rfl⟩ := hp
  refine z_ifB_ne dX6_see_8 (n := 11) (tg := 14) rfl (by decide) (fun c8 => ?_) (fun c8 => ?_)
  · refine z_iload_2 dX6_see_14 (n := 15) rfl ?_
    refine z_if_lt dX6_see_15 (n := 18) (tg := 23) rfl (by decide) (by first | assumption | exact ⟨by omega, by omega⟩ | exact zb_zr _) (fun c15 => ?_) (fun c15 => ?_)
    · refine z_bipush dX6_see_23 (n := 25) rfl (by decide) ?_
      refine z_ret_i dX6_see_25 rfl ?_
      first | exact Or.inl ⟨by omega, rfl, rfl⟩ | exact Or.inr (Or.inl ⟨by omega, by omega, rfl, rfl⟩) | exact Or.inr (Or.inr (Or.inl ⟨by omega, by omega, by omega, rfl, rfl⟩)) | exact Or.inr (Or.inr (Or.inr ⟨by omega, by omega, by omega, rfl, by rw [show msk q c = 31 - zsy q from if_pos (by omega)]⟩)) | exact Or.inr (Or.inr (Or.inr ⟨by omega, by omega, by omega, rfl, by rw [show msk q c = zsy q from if_neg (by omega)]⟩))
    · refine z_iload_2 dX6_see_18 (n := 19) rfl ?_
      refine z_iconst dX6_see_19 (n := 20) rfl ?_
      refine z_icmp_lt dX6_see_20 (n := 23) (tg := 26) rfl (by decide) (by first | assumption | exact ⟨by omega, by omega⟩ | exact zb_zr _) (by first | assumption | exact ⟨by omega, by omega⟩ | exact zb_zr _) (fun c20 => ?_) (fun c20 => ?_)
      · refine z_aload_0 dX6_see_26 (n := 27) rfl ?_
        refine z_get dX6_see_27 (n := 30) rfl rfl fd_X6_41 rfl ?_
        refine z_callV0i dX6_see_30 (n := 33) rfl mv_X5_size lk_X6_190 rfl (zrm (by decide) (by decide)) (Nat.le_of_ble_eq_true rfl) (c_X5_size) (fun r u hp => ?_)
        obtain ⟨rfl, rfl⟩ := hp
        refine z_bipush dX6_see_33 (n := 35) rfl (by decide) ?_
        refine z_icmp_lt dX6_see_35 (n := 38) (tg := 41) rfl (by decide) (by first | assumption | exact ⟨by omega, by omega⟩ | exact zb_zr _) (by first | assumption | exact ⟨by omega, by omega⟩ | exact zb_zr _) (fun c35 => ?_) (fun c35 => ?_)
        · refine z_aload_0 dX6_see_41 (n := 42) rfl ?_
          refine z_get dX6_see_42 (n := 45) rfl rfl fd_X6_41 rfl ?_
          refine z_iload_1 dX6_see_45 (n := 46) rfl ?_
          refine z_iload_3 dX6_see_46 (n := 47) rfl ?_
          refine z_if_eq dX6_see_47 (n := 50) (tg := 58) rfl (by decide) (by first | assumption | exact ⟨by omega, by omega⟩ | exact zb_zr _) (fun c47 => ?_) (fun c47 => ?_)
          · refine z_bipush dX6_see_58 (n := 60) rfl (by decide) ?_
            refine z_gets dX6_see_60 (n := 63) rfl fs_X6_191 ?_
            refine z_iload_2 dX6_see_63 (n := 64) rfl ?_
            refine z_sald dX6_see_64 (n := 65) rfl (by omega) (by omega) ?_
            refine z_iconst dX6_see_65 (n := 66) rfl ?_
            refine z_ixorG dX6_see_66 (n := 67) rfl ?_
            refine z_iandG dX6_see_67 (n := 68) rfl ?_
            try rw [mN_all (by omega) (by omega)]
            refine z_callV2v dX6_see_68 (n := 71) rfl mv_X5_add lk_X6_195 rfl (zrm (by decide) (by decide)) (Nat.le_of_ble_eq_true rfl) (c_X5_add (by omega) (by omega) (hso s (by omega) (by omega)).1 (by omega)) (fun u hp => ?_)
            subst hp
            refine z_aload_0 dX6_see_71 (n := 72) rfl ?_
            refine z_get dX6_see_72 (n := 75) rfl rfl fd_X6_41 rfl ?_
            refine z_callV0i dX6_see_75 (n := 78) rfl mv_X5_size lk_X6_190 rfl (zrm (by decide) (by decide)) (Nat.le_of_ble_eq_true rfl) (c_X5_size) (fun r u hp => ?_)
            obtain ⟨rfl, rfl⟩ := hp
            rw [zz_eq]
            refine z_ret_i dX6_see_78 rfl ?_
            first | exact Or.inl ⟨by omega, rfl, rfl⟩ | exact Or.inr (Or.inl ⟨by omega, by omega, rfl, rfl⟩) | exact Or.inr (Or.inr (Or.inl ⟨by omega, by omega, by omega, rfl, rfl⟩)) | exact Or.inr (Or.inr (Or.inr ⟨by omega, by omega, by omega, rfl, by rw [show msk q c = 31 - zsy q from if_pos (by omega)]⟩)) | exact Or.inr (Or.inr (Or.inr ⟨by omega, by omega, by omega, rfl, by rw [show msk q c = zsy q from if_neg (by omega)]⟩))
          · refine z_gets dX6_see_50 (n := 53) rfl fs_X6_191 ?_
            refine z_iload_2 dX6_see_53 (n := 54) rfl ?_
            refine z_sald dX6_see_54 (n := 55) rfl (by omega) (by omega) ?_
            refine z_goto dX6_see_55 (n := 68) (by decide) ?_
            try rw [mN_all (by omega) (by omega)]
            refine z_callV2v dX6_see_68 (n := 71) rfl mv_X5_add lk_X6_195 rfl (zrm (by decide) (by decide)) (Nat.le_of_ble_eq_true rfl) (c_X5_add (by omega) (by omega) (hso s (by omega) (by omega)).1 (by omega)) (fun u hp => ?_)
            subst hp
            refine z_aload_0 dX6_see_71 (n := 72) rfl ?_
            refine z_get dX6_see_72 (n := 75) rfl rfl fd_X6_41 rfl ?_
            refine z_callV0i dX6_see_75 (n := 78) rfl mv_X5_size lk_X6_190 rfl (zrm (by decide) (by decide)) (Nat.le_of_ble_eq_true rfl) (c_X5_size) (fun r u hp => ?_)
            obtain ⟨rfl, rfl⟩ := hp
            rw [zz_eq]
            refine z_ret_i dX6_see_78 rfl ?_
            first | exact Or.inl ⟨by omega, rfl, rfl⟩ | exact Or.inr (Or.inl ⟨by omega, by omega, rfl, rfl⟩) | exact Or.inr (Or.inr (Or.inl ⟨by omega, by omega, by omega, rfl, rfl⟩)) | exact Or.inr (Or.inr (Or.inr ⟨by omega, by omega, by omega, rfl, by rw [show msk q c = 31 - zsy q from if_pos (by omega)]⟩)) | exact Or.inr (Or.inr (Or.inr ⟨by omega, by omega, by omega, rfl, by rw [show msk q c = zsy q from if_neg (by omega)]⟩))
        · refine z_bipush dX6_see_38 (n := 40) rfl (by decide) ?_
          refine z_ret_i dX6_see_40 rfl ?_
          first | exact Or.inl ⟨by omega, rfl, rfl⟩ | exact Or.inr (Or.inl ⟨by omega, by omega, rfl, rfl⟩) | exact Or.inr (Or.inr (Or.inl ⟨by omega, by omega, by omega, rfl, rfl⟩)) | exact Or.inr (Or.inr (Or.inr ⟨by omega, by omega, by omega, rfl, by rw [show msk q c = 31 - zsy q from if_pos (by omega)]⟩)) | exact Or.inr (Or.inr (Or.inr ⟨by omega, by omega, by omega, rfl, by rw [show msk q c = zsy q from if_neg (by omega)]⟩))
      · refine z_bipush dX6_see_23 (n := 25) rfl (by decide) ?_
        refine z_ret_i dX6_see_25 rfl ?_
        first | exact Or.inl ⟨by omega, rfl, rfl⟩ | exact Or.inr (Or.inl ⟨by omega, by omega, rfl, rfl⟩) | exact Or.inr (Or.inr (Or.inl ⟨by omega, by omega, by omega, rfl, rfl⟩)) | exact Or.inr (Or.inr (Or.inr ⟨by omega, by omega, by omega, rfl, by rw [show msk q c = 31 - zsy q from if_pos (by omega)]⟩)) | exact Or.inr (Or.inr (Or.inr ⟨by omega, by omega, by omega, rfl, by rw [show msk q c = zsy q from if_neg (by omega)]⟩))
  · refine z_bipush dX6_see_11 (n := 13) rfl (by decide) ?_
    refine z_ret_i dX6_see_13 rfl ?_
    first | exact Or.inl ⟨by omega, rfl, rfl⟩ | exact Or.inr (Or.inl ⟨by omega, by omega, rfl, rfl⟩) | exact Or.inr (Or.inr (Or.inl ⟨by omega, by omega, by omega, rfl, rfl⟩)) | exact Or.inr (Or.inr (Or.inr ⟨by omega, by omega, by omega, rfl, by rw [show msk q c = 31 - zsy q from if_pos (by omega)]⟩)) | exact Or.inr (Or.inr (Or.inr ⟨by omega, by omega, by omega, rfl, by rw [show msk q c = zsy q from if_neg (by omega)]⟩))
set_option maxHeartbeats 4000000 in
theorem c_X6_forget {G : zG} {sz : zSz} {ar : zAr}  : zSem G mX6_forget 1 [zR 0] (X sz ar) (zpi fun r u => r = sz 27 1 ∧ ∃ ar', u = X (zz sz 27 1 0) ar' ∧ (∀ j, j ≠ 28 → ar' j = ar j) ∧ ∀ j, 0 ≤ j → j < 6 → ar' 28 j = 31) := by
  refine z_enter (L' := [some (zR 0), none]) (by decide +kernel) (Nat.le_of_ble_eq_true rfl) ⟨1, rfl⟩ ?_
  refine z_aload_0 dX6_forget_0 (n := 1) rfl ?_
  refine z_get dX6_forget_1 (n := 4) rfl rfl fd_X6_41 rfl ?_
  refine z_callV0i dX6_forget_4 (n := 7) rfl mv_X5_size lk_X6_190 rfl (zrm (by decide) (by decide)) (Nat.le_of_ble_eq_true rfl) (c_X5_size) (fun r u hp => ?_)
  obtain ⟨rfl, rfl⟩ := hp
  refine z_istore_1 dX6_forget_7 (n := 8) rfl (by decide) (fun w h => by cases h; try rfl) ?_
  refine z_aload_0 dX6_forget_8 (n := 9) rfl ?_
  refine z_get dX6_forget_9 (n := 12) rfl rfl fd_X6_41 rfl ?_
  refine z_callV0v dX6_forget_12 (n := 15) rfl mv_X5_clear lk_X6_97 rfl (zrm (by decide) (by decide)) (Nat.le_of_ble_eq_true rfl) (c_X5_clear) (fun u hp => ?_)
  obtain ⟨ar2, rfl, hF2, h28⟩ := hp
  refine z_iload_1 dX6_forget_15 (n := 16) rfl ?_
  refine z_ret_i dX6_forget_16 rfl ?_
  exact ⟨rfl, ar2, rfl, hF2, h28⟩
