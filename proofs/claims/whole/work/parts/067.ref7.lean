/-! the reference: draws, images -/
set_option maxHeartbeats 4000000 in
theorem c_X7_drawOf {G : zG} {sz : zSz} {ar : zAr} {d : Int} (h0 : 0 ≤ sz 41 17) (h1 : sz 41 17 < 2147483648) (hd0 : 0 < d) (hd1 : d < 2147483648)  : zSem G mX7_drawOf 0 [zR 41, zI d] (X sz ar) (zpi fun r u => r = sd (sz 41 17) / 65536 % d ∧ u = X (zz sz 41 17 (sd (sz 41 17))) ar) := by
  refine z_enter (L' := [some (zR 41), some (zI d)]) (by decide +kernel) (Nat.le_of_ble_eq_true rfl) ⟨0, rfl⟩ ?_
  have hs := sd_r (sz 41 17)
  refine z_aload_0 dX7_drawOf_0 (n := 1) rfl ?_
  refine z_ldc2 dX7_drawOf_1 (n := 4) rfl kn_X7_224 ?_
  refine z_aload_0 dX7_drawOf_4 (n := 5) rfl ?_
  refine z_get dX7_drawOf_5 (n := 8) rfl rfl fd_X7_226 rfl ?_
  refine z_lmul dX7_drawOf_8 (n := 9) rfl ?_
  refine z_ldc2 dX7_drawOf_9 (n := 12) rfl kn_X7_230 ?_
  refine z_ladd dX7_drawOf_12 (n := 13) rfl ?_
  refine z_ldc2 dX7_drawOf_13 (n := 16) rfl kn_X7_232 ?_
  refine z_lrem dX7_drawOf_16 (n := 17) rfl (by omega) (by omega) (by omega) (by omega) ?_
  rw [show (1103515245 * sz 41 17 + 12345) % 2147483648 = sd (sz 41 17) from rfl]
  refine z_putLX dX7_drawOf_17 (n := 20) rfl rfl fw_X7_226 (by first | decide | simp) rfl ?_
  refine z_aload_0 dX7_drawOf_20 (n := 21) rfl ?_
  refine z_get dX7_drawOf_21 (n := 24) rfl rfl fd_X7_226 rfl ?_
  rw [zz_eq]
  refine z_ldc2 dX7_drawOf_24 (n := 27) rfl kn_X7_234 ?_
  refine z_ldiv dX7_drawOf_27 (n := 28) rfl (by omega) (by omega) (by omega) (by omega) ?_
  refine z_iload_1 dX7_drawOf_28 (n := 29) rfl ?_
  refine z_i2l dX7_drawOf_29 (n := 30) rfl (by first | assumption | exact ⟨by omega, by omega⟩ | exact zb_zr _) ?_
  refine z_lrem dX7_drawOf_30 (n := 31) rfl (by omega) (by omega) (by omega) (by omega) ?_
  refine z_l2i dX7_drawOf_31 (n := 32) rfl ?_
  refine z_ret_i dX7_drawOf_32 rfl ?_
  exact ⟨rfl, rfl⟩
theorem Mg.s {sz : zSz} {ar : zAr} (x : Int) : Mg sz ar (zz sz 41 17 x) ar := ⟨fun j hj => zz_ne hj, fun i _ _ hi => zz_ni hi, fun _ _ => rfl⟩
set_option maxHeartbeats 4000000 in
theorem la_X7_drawnNow {G : zG} {sz : zSz} {ar : zAr} {ti se q su sa i s : Int} {y9 : Option zV} {P : Option zV → zS → Prop} (hn : 0 < sz 41 0) (hn6 : sz 41 0 ≤ 6) (h0 : 0 ≤ s) (h1 : s < 2147483648)
    (K : ∀ (y8 : Option zV) sz' ar', sz' 41 17 = (dw (sz 41 0) 4 s).2 → LR 4 (ar' 53) (dw (sz 41 0) 4 s).1 → Mg sz ar sz' ar' → zWP G mX7_drawnNow 3 P 63 [some (zR 41), some (zI ti), some (zI se), some (zI q), some (zI su), some (zI sa), some (zI i), some (zI 4), y8, y9] [] (X sz' ar')) :
    ∀ (m k : Nat) (sz' : zSz) (ar' : zAr) (y8 : Option zV), k + m = 4 → sz' 41 17 = (dw (sz 41 0) k s).2 → LR k (ar' 53) (dw (sz 41 0) k s).1 → Mg sz ar sz' ar' → zWP G mX7_drawnNow 3 P 24 [some (zR 41), some (zI ti), some (zI se), some (zI q), some (zI su), some (zI sa), some (zI i), some (zI k), y8, y9] [] (X sz' ar') := by
  intro m
  induction m with
  | zero =>
    intro k sz' ar' y8 hk hs hL hF
    have ek : k = 4 := by omega
    subst ek
    refine z_iload_7 dX7_drawnNow_24 (n := 26) rfl ?_
    refine z_iconst dX7_drawnNow_26 (n := 27) rfl ?_
    refine z_icmp_ge dX7_drawnNow_27 (n := 30) (tg := 63) rfl (by decide) (by first | assumption | exact ⟨by omega, by omega⟩ | exact zb_zr _) (by first | assumption | exact ⟨by omega, by omega⟩ | exact zb_zr _) (fun c27 => ?_) (fun c27 => ?_)
    · exact K y8 sz' ar' hs hL hF
    · exfalso; omega
  | succ m ih =>
    intro k sz' ar' y8 hk hs hL hF
    have e0 : sz' 41 0 = sz 41 0 := hF.2.1 0 (by decide) (by decide) (by decide)
    have hd := dw_r hn h0 h1 k
    have hs1 := sd_r (dw (sz 41 0) k s).2
    have hs2 := sd_r (sd (dw (sz 41 0) k s).2)
    refine z_iload_7 dX7_drawnNow_24 (n := 26) rfl ?_
    refine z_iconst dX7_drawnNow_26 (n := 27) rfl ?_
    refine z_icmp_ge dX7_drawnNow_27 (n := 30) (tg := 63) rfl (by decide) (by first | assumption | exact ⟨by omega, by omega⟩ | exact zb_zr _) (by first | assumption | exact ⟨by omega, by omega⟩ | exact zb_zr _) (fun c27 => ?_) (fun c27 => ?_)
    · exfalso; omega
    · refine z_aload_0 dX7_drawnNow_30 (n := 31) rfl ?_
      refine z_aload_0 dX7_drawnNow_31 (n := 32) rfl ?_
      refine z_get dX7_drawnNow_32 (n := 35) rfl rfl fd_X7_96 rfl ?_
      refine z_callV1i dX7_drawnNow_35 (n := 38) rfl mv_X7_drawOf lk_X7_236 rfl (zrm (by decide) (by decide)) (Nat.le_of_ble_eq_true rfl) (c_X7_drawOf (by rw [hs]; omega) (by rw [hs]; omega) (by omega) (by omega)) (fun r u hp => ?_)
      obtain ⟨rfl, rfl⟩ := hp
      rw [hs, e0]
      refine z_istore_8 dX7_drawnNow_38 (n := 40) rfl (by decide) (fun w h => by cases h; try rfl) ?_
      refine z_aload_0 dX7_drawnNow_40 (n := 41) rfl ?_
      refine z_get dX7_drawnNow_41 (n := 44) rfl rfl fd_X7_45 rfl ?_
      refine z_iload_7 dX7_drawnNow_44 (n := 46) rfl ?_
      refine z_iconst dX7_drawnNow_46 (n := 47) rfl ?_
      refine z_iload_8 dX7_drawnNow_47 (n := 49) rfl ?_
      refine z_imul dX7_drawnNow_49 (n := 50) rfl ?_
      refine z_aload_0 dX7_drawnNow_50 (n := 51) rfl ?_
      refine z_iconst dX7_drawnNow_51 (n := 52) rfl ?_
      refine z_callV1i dX7_drawnNow_52 (n := 55) rfl mv_X7_drawOf lk_X7_236 rfl (zrm (by decide) (by decide)) (Nat.le_of_ble_eq_true rfl) (c_X7_drawOf (by rw [zz_eq]; omega) (by rw [zz_eq]; omega) (by omega) (by omega)) (fun r u hp => ?_)
      obtain ⟨rfl, rfl⟩ := hp
      rw [zz_eq]
      refine z_iadd dX7_drawnNow_55 (n := 56) rfl ?_
      refine z_iastX dX7_drawnNow_56 (n := 57) rfl rfl (by omega) (by omega) (by decide) rfl ?_
      refine z_iinc_7 dX7_drawnNow_57 (n := 60) rfl (by decide) (fun w h => by cases h; try rfl) ?_
      refine z_goto dX7_drawnNow_60 (n := 24) (by decide) ?_
      have h9 := ih (k + 1) (zz (zz sz' 41 17 (sd (dw (sz 41 0) k s).2)) 41 17 (sd (sd (dw (sz 41 0) k s).2))) (zq ar' 53 (zf (ar' 53) k (2 * (sd (dw (sz 41 0) k s).2 / 65536 % sz 41 0) + sd (sd (dw (sz 41 0) k s).2) / 65536 % 2))) (some (zI (sd (dw (sz 41 0) k s).2 / 65536 % sz 41 0))) (by omega) (by rw [zz_eq]; rfl) (by rw [zq_eq]; have h8 := hL.add (l := 2 * (sd (dw (sz 41 0) k s).2 / 65536 % sz 41 0) + sd (sd (dw (sz 41 0) k s).2) / 65536 % 2); rw [show ((k + 1 : Nat) : Int) = (k : Int) + 1 by omega]; exact h8) (hF.tr ⟨fun j hj => by rw [zz_ne hj, zz_ne hj], fun i _ _ hi => by rw [zz_ni hi, zz_ni hi], fun j hj => zq_ne (by omega)⟩)
      rw [show ((k + 1 : Nat) : Int) = (k : Int) + 1 by omega] at h9
      exact h9
set_option maxHeartbeats 4000000 in
theorem lb_X7_drawnNow {G : zG} {sz : zSz} {ar : zAr} {ti se q su sa i row : Int} {ys : List Int} {P : Option zV → zS → Prop} (hM : MOK (sz 41 0) (ar 42) (ar 43)) (hY : LR 4 (ar 53) ys) (hy : Lt (sz 41 0) ys)
    (K : ∀ out, out = rwd (ar 42) (ar 43) 8 ys row → zWP G mX7_drawnNow 3 P 108 [some (zR 41), some (zI ti), some (zI se), some (zI q), some (zI su), some (zI sa), some (zI i), some (zI row), some (zI out), some (zI 4)] [] (X sz ar)) :
    ∀ (rest pre : List Int) (x : Int), ys = pre ++ rest → 0 ≤ x → x < 2 ^ 8 → rwd (ar 42) (ar 43) 8 rest x = rwd (ar 42) (ar 43) 8 ys row → zWP G mX7_drawnNow 3 P 79 [some (zR 41), some (zI ti), some (zI se), some (zI q), some (zI su), some (zI sa), some (zI i), some (zI row), some (zI x), some (zI pre.length)] [] (X sz ar) := by
  have hn6 := hM.2.1
  have hl := hY.1
  intro rest
  induction rest with
  | nil =>
    intro pre x e hx0 hx1 hv
    have el : ys.length = pre.length := by rw [e]; simp
    have e4 : (pre.length : Int) = 4 := by omega
    rw [e4]
    refine z_iload_9 dX7_drawnNow_79 (n := 81) rfl ?_
    refine z_iconst dX7_drawnNow_81 (n := 82) rfl ?_
    refine z_icmp_ge dX7_drawnNow_82 (n := 85) (tg := 108) rfl (by decide) (by first | assumption | exact ⟨by omega, by omega⟩ | exact zb_zr _) (by first | assumption | exact ⟨by omega, by omega⟩ | exact zb_zr _) (fun c82 => ?_) (fun c82 => ?_)
    · exact K x hv
    · exfalso; omega
  | cons a t ih =>
    intro pre x e hx0 hx1 hv
    have el : ys.length = pre.length + (t.length + 1) := by rw [e]; simp
    have ha := hy a (by rw [e]; simp)
    have hm : ar 53 pre.length = a := LR.mid (t := t) (n := 4) (by rw [← e]; exact hY)
    have hr := rl_r (ar 42) (ar 43) 8 a x hx0 hx1
    refine z_iload_9 dX7_drawnNow_79 (n := 81) rfl ?_
    refine z_iconst dX7_drawnNow_81 (n := 82) rfl ?_
    refine z_icmp_ge dX7_drawnNow_82 (n := 85) (tg := 108) rfl (by decide) (by first | assumption | exact ⟨by omega, by omega⟩ | exact zb_zr _) (by first | assumption | exact ⟨by omega, by omega⟩ | exact zb_zr _) (fun c82 => ?_) (fun c82 => ?_)
    · exfalso; omega
    · refine z_aload_0 dX7_drawnNow_85 (n := 86) rfl ?_
      refine z_aload_0 dX7_drawnNow_86 (n := 87) rfl ?_
      refine z_get dX7_drawnNow_87 (n := 90) rfl rfl fd_X7_45 rfl ?_
      refine z_iload_9 dX7_drawnNow_90 (n := 92) rfl ?_
      refine z_iald dX7_drawnNow_92 (n := 93) rfl rfl (by omega) (by omega) (by decide) ?_
      rw [hm]
      refine z_iload_8 dX7_drawnNow_93 (n := 95) rfl ?_
      refine z_bipush dX7_drawnNow_95 (n := 97) rfl (by decide) ?_
      refine z_callV3i dX7_drawnNow_97 (n := 100) rfl mv_X7_actLetter lk_X7_134 rfl (zrm (by decide) (by decide)) (Nat.le_of_ble_eq_true rfl) (c_X7_actLetter hM (by omega) (by omega) (by decide) (by decide) hx0 hx1) (fun r u hp => ?_)
      obtain ⟨rfl, rfl⟩ := hp
      rw [show (8 : Int).toNat = 8 from rfl]
      refine z_istore_8 dX7_drawnNow_100 (n := 102) rfl (by decide) (fun w h => by cases h; try rfl) ?_
      refine z_iinc_9 dX7_drawnNow_102 (n := 105) rfl (by decide) (fun w h => by cases h; try rfl) ?_
      refine z_goto dX7_drawnNow_105 (n := 79) (by decide) ?_
      have h9 := ih (pre ++ [a]) (rl (ar 42) (ar 43) 8 a x) (by rw [e]; simp) hr.1 hr.2 hv
      rw [show ((pre ++ [a]).length : Int) = (pre.length : Int) + 1 by simp] at h9
      exact h9
set_option maxHeartbeats 4000000 in
theorem c_X7_drawnNow {G : zG} {sz : zSz} {ar : zAr} {ti s q : Int} (hM : MOK (sz 41 0) (ar 42) (ar 43)) (hn : 0 < sz 41 0) (h0 : 0 ≤ s) (h1 : s < 2147483648) (ht0 : 1 ≤ ti) (ht1 : ti ≤ 30) (hq0 : 0 ≤ q) (hq1 : q < 3)  : zSem G mX7_drawnNow 3 [zR 41, zI ti, zI s, zI q] (X sz ar) (zpi fun r u => r = (if q = 0 then (drS (ar 42) (ar 43) (sz 41 0) ti.toNat s).1 else if q = 1 then (drS (ar 42) (ar 43) (sz 41 0) ti.toNat s).2.1 else (drS (ar 42) (ar 43) (sz 41 0) ti.toNat s).2.2) ∧ ∃ sz' ar', u = X sz' ar' ∧ Mg sz ar sz' ar') := by
  refine z_enter (L' := [some (zR 41), some (zI ti), some (zI s), some (zI q), none, none, none, none, none, none]) (by decide +kernel) (Nat.le_of_ble_eq_true rfl) ⟨6, rfl⟩ ?_
  have hn6 := hM.2.1
  have HO : ∀ (m i : Nat) (sz' : zSz) (ar' : zAr) (y7 y8 y9 : Option zV), (i : Int) + m = ti → sz' 41 17 = (drS (ar 42) (ar 43) (sz 41 0) i s).2.2 → Mg sz ar sz' ar' → zWP G mX7_drawnNow 3 (zpi fun r u => r = (if q = 0 then (drS (ar 42) (ar 43) (sz 41 0) ti.toNat s).1 else if q = 1 then (drS (ar 42) (ar 43) (sz 41 0) ti.toNat s).2.1 else (drS (ar 42) (ar 43) (sz 41 0) ti.toNat s).2.2) ∧ ∃ sz' ar', u = X sz' ar' ∧ Mg sz ar sz' ar') 15 [some (zR 41), some (zI ti), some (zI s), some (zI q), some (zI (drS (ar 42) (ar 43) (sz 41 0) i s).1), some (zI (drS (ar 42) (ar 43) (sz 41 0) i s).2.1), some (zI i), y7, y8, y9] [] (X sz' ar') := by
    intro m
    induction m with
    | zero =>
      intro i sz' ar' y7 y8 y9 hi hs hF
      have ei : ti.toNat = i := by omega
      rw [ei]
      refine z_iload_6 dX7_drawnNow_15 (n := 17) rfl ?_
      refine z_iload_1 dX7_drawnNow_17 (n := 18) rfl ?_
      refine z_icmp_ge dX7_drawnNow_18 (n := 21) (tg := 138) rfl (by decide) (by first | assumption | exact ⟨by omega, by omega⟩ | exact zb_zr _) (by first | assumption | exact ⟨by omega, by omega⟩ | exact zb_zr _) (fun c18 => ?_) (fun c18 => ?_)
      · refine z_iload_3 dX7_drawnNow_138 (n := 139) rfl ?_
        refine z_if_ne dX7_drawnNow_139 (n := 142) (tg := 147) rfl (by decide) (by first | assumption | exact ⟨by omega, by omega⟩ | exact zb_zr _) (fun c139 => ?_) (fun c139 => ?_)
        · rw [if_neg c139]
          refine z_iload_3 dX7_drawnNow_147 (n := 148) rfl ?_
          refine z_iconst dX7_drawnNow_148 (n := 149) rfl ?_
          refine z_icmp_ne dX7_drawnNow_149 (n := 152) (tg := 157) rfl (by decide) (by first | assumption | exact ⟨by omega, by omega⟩ | exact zb_zr _) (by first | assumption | exact ⟨by omega, by omega⟩ | exact zb_zr _) (fun c149 => ?_) (fun c149 => ?_)
          · rw [if_neg c149]
            refine z_aload_0 dX7_drawnNow_157 (n := 158) rfl ?_
            refine z_get dX7_drawnNow_158 (n := 161) rfl rfl fd_X7_226 rfl ?_
            rw [hs]
            refine z_l2i dX7_drawnNow_161 (n := 162) rfl ?_
            refine z_ret_i dX7_drawnNow_162 rfl ?_
            exact ⟨rfl, _, _, rfl, hF⟩
          · rw [if_pos c149]
            refine z_iload_5 dX7_drawnNow_152 (n := 154) rfl ?_
            refine z_goto dX7_drawnNow_154 (n := 162) (by decide) ?_
            refine z_ret_i dX7_drawnNow_162 rfl ?_
            exact ⟨rfl, _, _, rfl, hF⟩
        · rw [if_pos c139]
          refine z_iload_4 dX7_drawnNow_142 (n := 144) rfl ?_
          refine z_goto dX7_drawnNow_144 (n := 162) (by decide) ?_
          refine z_ret_i dX7_drawnNow_162 rfl ?_
          exact ⟨rfl, _, _, rfl, hF⟩
      · exfalso; omega
    | succ m ih =>
      intro i sz' ar' y7 y8 y9 hi hs hF
      obtain ⟨hM', e0, e42, e43⟩ := hF.M hM
      have hdr := drS_r (ar 42) (ar 43) (sz 41 0) h0 h1 i
      have hor := dO_r (ar 42) (ar 43) (sz 41 0) (drS (ar 42) (ar 43) (sz 41 0) i s).2.2
      have hdw := dw_r hn hdr.2.2.2.2.1 hdr.2.2.2.2.2 4
      refine z_iload_6 dX7_drawnNow_15 (n := 17) rfl ?_
      refine z_iload_1 dX7_drawnNow_17 (n := 18) rfl ?_
      refine z_icmp_ge dX7_drawnNow_18 (n := 21) (tg := 138) rfl (by decide) (by first | assumption | exact ⟨by omega, by omega⟩ | exact zb_zr _) (by first | assumption | exact ⟨by omega, by omega⟩ | exact zb_zr _) (fun c18 => ?_) (fun c18 => ?_)
      · exfalso; omega
      · refine z_iconst dX7_drawnNow_21 (n := 22) rfl ?_
        refine z_istore_7 dX7_drawnNow_22 (n := 24) rfl (by decide) (fun w h => by cases h; try rfl) ?_
        refine la_X7_drawnNow (sz := sz') (ar := ar') (s := (drS (ar 42) (ar 43) (sz 41 0) i s).2.2) (by omega) (by omega) (by omega) (by omega) ?_ 4 0 sz' ar' y8 (by omega) (by rw [hs]; rfl) LR.nil Mg.rf
        rw [e0]
        intro y8b sz2 ar2 hs2 hL2 hF2
        have hG2 := hF.tr hF2
        obtain ⟨hM2, e02, e422, e432⟩ := hG2.M hM
        refine z_aload_0 dX7_drawnNow_63 (n := 64) rfl ?_
        refine z_sipush dX7_drawnNow_64 (n := 67) rfl (by decide) ?_
        refine z_callV1i dX7_drawnNow_67 (n := 70) rfl mv_X7_drawOf lk_X7_236 rfl (zrm (by decide) (by decide)) (Nat.le_of_ble_eq_true rfl) (c_X7_drawOf (by rw [hs2]; omega) (by rw [hs2]; omega) (by omega) (by omega)) (fun r u hp => ?_)
        obtain ⟨rfl, rfl⟩ := hp
        rw [hs2, show sd (dw (sz 41 0) 4 (drS (ar 42) (ar 43) (sz 41 0) i s).2.2).2 / 65536 % 256 = dR (sz 41 0) (drS (ar 42) (ar 43) (sz 41 0) i s).2.2 from rfl]
        have hG3 := hG2.tr (Mg.s (sz := sz2) (ar := ar2) (sd (dw (sz 41 0) 4 (drS (ar 42) (ar 43) (sz 41 0) i s).2.2).2))
        obtain ⟨hM3, e03, e423, e433⟩ := hG3.M hM
        refine z_istore_7 dX7_drawnNow_70 (n := 72) rfl (by decide) (fun w h => by cases h; try rfl) ?_
        refine z_iload_7 dX7_drawnNow_72 (n := 74) rfl ?_
        refine z_istore_8 dX7_drawnNow_74 (n := 76) rfl (by decide) (fun w h => by cases h; try rfl) ?_
        refine z_iconst dX7_drawnNow_76 (n := 77) rfl ?_
        refine z_istore_9 dX7_drawnNow_77 (n := 79) rfl (by decide) (fun w h => by cases h; try rfl) ?_
        refine lb_X7_drawnNow hM3 hL2 (by rw [e03]; exact hdw.1) ?_ _ [] _ rfl hor.2.2.1 hor.2.2.2 rfl
        intro out hout
        rw [e422, e432] at hout
        have hoe : out = dO (ar 42) (ar 43) (sz 41 0) (drS (ar 42) (ar 43) (sz 41 0) i s).2.2 := hout
        rw [hoe]
        have h9 : ∀ (y7 y8 y9 : Option zV), _ := fun y7 y8 y9 => ih (i + 1) _ ar2 y7 y8 y9 (by omega) (by rw [zz_eq]; rfl) hG3
        rw [show ((i + 1 : Nat) : Int) = (i : Int) + 1 by omega, show (drS (ar 42) (ar 43) (sz 41 0) (i + 1) s).1 = (drS (ar 42) (ar 43) (sz 41 0) i s).1 + dO (ar 42) (ar 43) (sz 41 0) (drS (ar 42) (ar 43) (sz 41 0) i s).2.2 from rfl] at h9
        refine z_iload_4 dX7_drawnNow_108 (n := 110) rfl ?_
        refine z_iload_8 dX7_drawnNow_110 (n := 112) rfl ?_
        refine z_iadd dX7_drawnNow_112 (n := 113) rfl ?_
        refine z_istore_4 dX7_drawnNow_113 (n := 115) rfl (by decide) (fun w h => by cases h; try rfl) ?_
        refine z_iload_5 dX7_drawnNow_115 (n := 117) rfl ?_
        refine z_iload_8 dX7_drawnNow_117 (n := 119) rfl ?_
        refine z_iload_7 dX7_drawnNow_119 (n := 121) rfl ?_
        refine z_icmp_ne dX7_drawnNow_121 (n := 124) (tg := 128) rfl (by decide) (by first | assumption | exact ⟨by omega, by omega⟩ | exact zb_zr _) (by first | assumption | exact ⟨by omega, by omega⟩ | exact zb_zr _) (fun c121 => ?_) (fun c121 => ?_)
        · rw [show (drS (ar 42) (ar 43) (sz 41 0) (i + 1) s).2.1 = (drS (ar 42) (ar 43) (sz 41 0) i s).2.1 + 0 by show _ + (if _ then _ else _) = _; rw [if_neg c121]] at h9
          refine z_iconst dX7_drawnNow_128 (n := 129) rfl ?_
          refine z_iadd dX7_drawnNow_129 (n := 130) rfl ?_
          refine z_istore_5 dX7_drawnNow_130 (n := 132) rfl (by decide) (fun w h => by cases h; try rfl) ?_
          refine z_iinc_6 dX7_drawnNow_132 (n := 135) rfl (by decide) (fun w h => by cases h; try rfl) ?_
          refine z_goto dX7_drawnNow_135 (n := 15) (by decide) ?_
          exact h9 _ _ _
        · rw [show (drS (ar 42) (ar 43) (sz 41 0) (i + 1) s).2.1 = (drS (ar 42) (ar 43) (sz 41 0) i s).2.1 + 1 by show _ + (if _ then _ else _) = _; rw [if_pos c121]] at h9
          refine z_iconst dX7_drawnNow_124 (n := 125) rfl ?_
          refine z_goto dX7_drawnNow_125 (n := 129) (by decide) ?_
          refine z_iadd dX7_drawnNow_129 (n := 130) rfl ?_
          refine z_istore_5 dX7_drawnNow_130 (n := 132) rfl (by decide) (fun w h => by cases h; try rfl) ?_
          refine z_iinc_6 dX7_drawnNow_132 (n := 135) rfl (by decide) (fun w h => by cases h; try rfl) ?_
          refine z_goto dX7_drawnNow_135 (n := 15) (by decide) ?_
          exact h9 _ _ _
  refine z_aload_0 dX7_drawnNow_0 (n := 1) rfl ?_
  refine z_iload_2 dX7_drawnNow_1 (n := 2) rfl ?_
  refine z_i2l dX7_drawnNow_2 (n := 3) rfl (by first | assumption | exact ⟨by omega, by omega⟩ | exact zb_zr _) ?_
  refine z_putLX dX7_drawnNow_3 (n := 6) rfl rfl fw_X7_226 (by first | decide | simp) rfl ?_
  refine z_iconst dX7_drawnNow_6 (n := 7) rfl ?_
  refine z_istore_4 dX7_drawnNow_7 (n := 9) rfl (by decide) (fun w h => by cases h; try rfl) ?_
  refine z_iconst dX7_drawnNow_9 (n := 10) rfl ?_
  refine z_istore_5 dX7_drawnNow_10 (n := 12) rfl (by decide) (fun w h => by cases h; try rfl) ?_
  refine z_iconst dX7_drawnNow_12 (n := 13) rfl ?_
  refine z_istore_6 dX7_drawnNow_13 (n := 15) rfl (by decide) (fun w h => by cases h; try rfl) ?_
  exact HO ti.toNat 0 _ _ none none none (by omega) (by rw [zz_eq]; rfl) (Mg.s _)
set_option maxHeartbeats 4000000 in
theorem c_X7_drawn {G : zG} {sz : zSz} {ar : zAr} {ws : Int → List Int} {ti s q : Int} (ht : zr ti) (hs : zr s) (hq : zr q) (hC : MK ws sz ar)  : zSem G mX7_drawn 4 [zR 41, zI ti, zI s, zI q] (X sz ar) (zpi fun r u => r = (if ¬ (1 ≤ ti ∧ ti ≤ 30 ∧ 0 ≤ s ∧ 0 ≤ q ∧ q < 3) then -102 else if sz 41 0 = 0 then -103 else (if q = 0 then (drS (ar 42) (ar 43) (sz 41 0) ti.toNat s).1 else if q = 1 then (drS (ar 42) (ar 43) (sz 41 0) ti.toNat s).2.1 else (drS (ar 42) (ar 43) (sz 41 0) ti.toNat s).2.2)) ∧ ∃ sz' ar', u = X sz' ar' ∧ Mg sz ar sz' ar') := by
  refine z_enter (L' := [some (zR 41), some (zI ti), some (zI s), some (zI q)]) (by decide +kernel) (Nat.le_of_ble_eq_true rfl) ⟨0, rfl⟩ ?_
  have hn := hC.1.1
  have hn6 := hC.1.2.1
  have hs2 := hs.2
  refine z_iload_1 dX7_drawn_0 (n := 1) rfl ?_
  refine z_iconst dX7_drawn_1 (n := 2) rfl ?_
  refine z_bipush dX7_drawn_2 (n := 4) rfl (by decide) ?_
  refine z_callS3i dX7_drawn_4 (n := 7) rfl ms_X7_within lk_X7_69 (zrm (by decide) (by decide)) (Nat.le_of_ble_eq_true rfl) (c_X7_within (by first | assumption | exact ⟨by omega, by omega⟩ | exact zb_zr _) (by first | assumption | exact ⟨by omega, by omega⟩ | exact zb_zr _) (by first | assumption | exact ⟨by omega, by omega⟩ | exact zb_zr _)) (fun r u hp => ?_)
  obtain ⟨rfl, rfl⟩ := hp
  refine z_ifB_eq dX7_drawn_7 (n := 10) (tg := 23) rfl (by decide) (fun c7 => ?_) (fun c7 => ?_)
  · rw [if_pos (by omega)]
    have hG9 : Mg sz ar sz ar := Mg.rf
    refine z_bipush dX7_drawn_23 (n := 25) rfl (by decide) ?_
    refine z_ret_i dX7_drawn_25 rfl ?_
    exact ⟨rfl, _, _, rfl, hG9⟩
  · refine z_iload_2 dX7_drawn_10 (n := 11) rfl ?_
    refine z_if_lt dX7_drawn_11 (n := 14) (tg := 23) rfl (by decide) (by first | assumption | exact ⟨by omega, by omega⟩ | exact zb_zr _) (fun c11 => ?_) (fun c11 => ?_)
    · rw [if_pos (by omega)]
      have hG9 : Mg sz ar sz ar := Mg.rf
      refine z_bipush dX7_drawn_23 (n := 25) rfl (by decide) ?_
      refine z_ret_i dX7_drawn_25 rfl ?_
      exact ⟨rfl, _, _, rfl, hG9⟩
    · refine z_iload_3 dX7_drawn_14 (n := 15) rfl ?_
      refine z_iconst dX7_drawn_15 (n := 16) rfl ?_
      refine z_iconst dX7_drawn_16 (n := 17) rfl ?_
      refine z_callS3i dX7_drawn_17 (n := 20) rfl ms_X7_within lk_X7_69 (zrm (by decide) (by decide)) (Nat.le_of_ble_eq_true rfl) (c_X7_within (by first | assumption | exact ⟨by omega, by omega⟩ | exact zb_zr _) (by first | assumption | exact ⟨by omega, by omega⟩ | exact zb_zr _) (by first | assumption | exact ⟨by omega, by omega⟩ | exact zb_zr _)) (fun r u hp => ?_)
      obtain ⟨rfl, rfl⟩ := hp
      refine z_ifB_ne dX7_drawn_20 (n := 23) (tg := 26) rfl (by decide) (fun c20 => ?_) (fun c20 => ?_)
      · rw [if_neg (by omega)]
        refine z_aload_0 dX7_drawn_26 (n := 27) rfl ?_
        refine z_get dX7_drawn_27 (n := 30) rfl rfl fd_X7_96 rfl ?_
        refine z_if_le dX7_drawn_30 (n := 33) (tg := 43) rfl (by decide) (by first | assumption | exact ⟨by omega, by omega⟩ | exact zb_zr _) (fun c30 => ?_) (fun c30 => ?_)
        · rw [if_pos (by omega)]
          have hG9 : Mg sz ar sz ar := Mg.rf
          refine z_bipush dX7_drawn_43 (n := 45) rfl (by decide) ?_
          refine z_ret_i dX7_drawn_45 rfl ?_
          exact ⟨rfl, _, _, rfl, hG9⟩
        · rw [if_neg (by omega)]
          refine z_aload_0 dX7_drawn_33 (n := 34) rfl ?_
          refine z_iload_1 dX7_drawn_34 (n := 35) rfl ?_
          refine z_iload_2 dX7_drawn_35 (n := 36) rfl ?_
          refine z_iload_3 dX7_drawn_36 (n := 37) rfl ?_
          refine z_callV3i dX7_drawn_37 (n := 40) rfl mv_X7_drawnNow lk_X7_239 rfl (zrm (by decide) (by decide)) (Nat.le_of_ble_eq_true rfl) (c_X7_drawnNow hC.1 (by omega) (by omega) (by omega) (by omega) (by omega) (by omega) (by omega)) (fun r u hp => ?_)
          obtain ⟨rfl, sz3, ar3, rfl, hG9⟩ := hp
          refine z_goto dX7_drawn_40 (n := 45) (by decide) ?_
          refine z_ret_i dX7_drawn_45 rfl ?_
          exact ⟨rfl, _, _, rfl, hG9⟩
      · rw [if_pos (by omega)]
        have hG9 : Mg sz ar sz ar := Mg.rf
        refine z_bipush dX7_drawn_23 (n := 25) rfl (by decide) ?_
        refine z_ret_i dX7_drawn_25 rfl ?_
        exact ⟨rfl, _, _, rfl, hG9⟩
theorem zcp_0 {f g : Int → Int} : zcp f g 0 0 0 = g := by
  funext j
  unfold zcp
  rw [if_neg (by omega)]
theorem zcp_s {f g : Int → Int} {k : Int} (h : 0 ≤ k) : zf (zcp f g 0 0 k) k (f k) = zcp f g 0 0 (k + 1) := by
  funext j
  by_cases e : j = k
  · rw [e, zf_eq]
    unfold zcp
    rw [if_pos (by omega), show (0 : Int) + (k - 0) = k by omega]
  · rw [zf_ne e]
    unfold zcp
    by_cases h2 : 0 ≤ j ∧ j < 0 + k
    · rw [if_pos h2, if_pos (by omega)]
    · rw [if_neg h2, if_neg (by omega)]
theorem zq_self {ar : zAr} {k : Nat} : zq ar k (ar k) = ar := by
  funext j
  by_cases e : j = k
  · rw [e, zq_eq]
  · rw [zq_ne e]
theorem zq_zq {ar : zAr} {k : Nat} {f g : Int → Int} : zq (zq ar k f) k g = zq ar k g := by
  funext j
  by_cases e : j = k
  · rw [e, zq_eq, zq_eq]
  · rw [zq_ne e, zq_ne e, zq_ne e]
set_option maxHeartbeats 4000000 in
theorem c_X7_copy {G : zG} {sz : zSz} {ar : zAr} {k0 k1 N0 N1 : Nat} {c : Int} (h0 : ∀ sz ar, X sz ar k0 = zA 1 N0 (ar k0)) (h1 : ∀ sz ar, X sz ar k1 = zA 1 N1 (ar k1)) (hq : ∀ (sz : zSz) f, zA 1 N1 f = XF k1 (sz k1) f) (hne : k0 ≠ k1) (hc : 0 ≤ c) (hc0 : c ≤ N0) (hc1 : c ≤ N1) (hN0 : N0 ≤ 100) (hN1 : N1 ≤ 100)  : zSem G mX7_copy 0 [zR k0, zR k1, zI c] (X sz ar) (zpv fun u => u = X sz (zq ar k1 (zcp (ar k0) (ar k1) 0 0 c))) := by
  refine z_enter (L' := [some (zR k0), some (zR k1), some (zI c), none]) (by decide +kernel) (Nat.le_of_ble_eq_true rfl) ⟨1, rfl⟩ ?_
  have HO : ∀ (m : Nat) (k : Int), 0 ≤ k → k + m = c → zWP G mX7_copy 0 (zpv fun u => u = X sz (zq ar k1 (zcp (ar k0) (ar k1) 0 0 c))) 2 [some (zR k0), some (zR k1), some (zI c), some (zI k)] [] (X sz (zq ar k1 (zcp (ar k0) (ar k1) 0 0 k))) := by
    intro m
    induction m with
    | zero =>
      intro k hk0 hk
      have ek : k = c := by omega
      subst ek
      refine z_iload_3 dX7_copy_2 (n := 3) rfl ?_
      refine z_iload_2 dX7_copy_3 (n := 4) rfl ?_
      refine z_icmp_ge dX7_copy_4 (n := 7) (tg := 19) rfl (by decide) (by first | assumption | exact ⟨by omega, by omega⟩ | exact zb_zr _) (by first | assumption | exact ⟨by omega, by omega⟩ | exact zb_zr _) (fun c4 => ?_) (fun c4 => ?_)
      · refine z_ret_v dX7_copy_19 rfl ?_
        rfl
      · exfalso; omega
    | succ m ih =>
      intro k hk0 hk
      have h9 := ih (k + 1) (by omega) (by omega)
      rw [← zcp_s hk0] at h9
      refine z_iload_3 dX7_copy_2 (n := 3) rfl ?_
      refine z_iload_2 dX7_copy_3 (n := 4) rfl ?_
      refine z_icmp_ge dX7_copy_4 (n := 7) (tg := 19) rfl (by decide) (by first | assumption | exact ⟨by omega, by omega⟩ | exact zb_zr _) (by first | assumption | exact ⟨by omega, by omega⟩ | exact zb_zr _) (fun c4 => ?_) (fun c4 => ?_)
      · exfalso; omega
      · refine z_aload_1 dX7_copy_7 (n := 8) rfl ?_
        refine z_iload_3 dX7_copy_8 (n := 9) rfl ?_
        refine z_aload_0 dX7_copy_9 (n := 10) rfl ?_
        refine z_iload_3 dX7_copy_10 (n := 11) rfl ?_
        refine z_iald dX7_copy_11 (n := 12) rfl (h0 _ _) (by omega) (by omega) (by omega) ?_
        rw [zq_ne hne]
        refine z_iastX dX7_copy_12 (n := 13) rfl (h1 _ _) (by omega) (by omega) (by omega) (hq _ _) ?_
        refine z_iinc_3 dX7_copy_13 (n := 16) rfl (by decide) (fun w h => by cases h; try rfl) ?_
        refine z_goto dX7_copy_16 (n := 2) (by decide) ?_
        rw [zq_eq, zq_zq]
        exact h9
  have h8 := HO c.toNat 0 (by omega) (by omega)
  rw [zcp_0, zq_self] at h8
  refine z_iconst dX7_copy_0 (n := 1) rfl ?_
  refine z_istore_3 dX7_copy_1 (n := 2) rfl (by decide) (fun w h => by cases h; try rfl) ?_
  exact h8
def PIr (sz : zSz) (ar : zAr) (u : zS) : Prop := ∃ sz' ar', u = X sz' ar' ∧ sz' 41 19 = sz 41 3 ∧ sz' 41 20 = sz 41 0 ∧ sz' 41 21 = sz 41 6 ∧ ar' 54 = zcp (ar 42) (ar 54) 0 0 6 ∧ ar' 55 = zcp (ar 43) (ar 55) 0 0 12 ∧ ar' 56 = zcp (ar 44) (ar 56) 0 0 3 ∧ ar' 57 = zcp (ar 45) (ar 57) 0 0 48 ∧ ar' 58 = zcp (ar 46) (ar 58) 0 0 6 ∧ ar' 59 = zcp (ar 47) (ar 59) 0 0 6 ∧ ar' 60 = zcp (ar 48) (ar 60) 0 0 6 ∧ (∀ j, j ≠ 41 → sz' j = sz j) ∧ (∀ i, i ≠ 19 → i ≠ 20 → i ≠ 21 → sz' 41 i = sz 41 i) ∧ ∀ j, j < 54 ∨ 60 < j → ar' j = ar j
set_option maxHeartbeats 4000000 in
theorem lb_X7_image {G : zG} {sz : zSz} {ar : zAr} (hco : ∀ i, ar 48 i = 0 ∨ ar 48 i = 1) : ∀ (m : Nat) (k : Int), 0 ≤ k → k + m = 6 → zWP G mX7_image 1 (zpi fun r u => r = sz 41 0 ∧ u = X sz (zq ar 60 (zcp (ar 48) (ar 60) 0 0 6))) 113 [some (zR 41), some (zI k)] [] (X sz (zq ar 60 (zcp (ar 48) (ar 60) 0 0 k))) := by
  intro m
  induction m with
  | zero =>
    intro k hk0 hk
    have ek : k = 6 := by omega
    subst ek
    refine z_iload_1 dX7_image_113 (n := 114) rfl ?_
    refine z_bipush dX7_image_114 (n := 116) rfl (by decide) ?_
    refine z_icmp_ge dX7_image_116 (n := 119) (tg := 137) rfl (by decide) (by first | assumption | exact ⟨by omega, by omega⟩ | exact zb_zr _) (by first | assumption | exact ⟨by omega, by omega⟩ | exact zb_zr _) (fun c116 => ?_) (fun c116 => ?_)
    · refine z_aload_0 dX7_image_137 (n := 138) rfl ?_
      refine z_get dX7_image_138 (n := 141) rfl rfl fd_X7_96 rfl ?_
      refine z_ret_i dX7_image_141 rfl ?_
      exact ⟨rfl, rfl⟩
    · exfalso; omega
  | succ m ih =>
    intro k hk0 hk
    have h9 := ih (k + 1) (by omega) (by omega)
    rw [← zcp_s hk0] at h9
    refine z_iload_1 dX7_image_113 (n := 114) rfl ?_
    refine z_bipush dX7_image_114 (n := 116) rfl (by decide) ?_
    refine z_icmp_ge dX7_image_116 (n := 119) (tg := 137) rfl (by decide) (by first | assumption | exact ⟨by omega, by omega⟩ | exact zb_zr _) (by first | assumption | exact ⟨by omega, by omega⟩ | exact zb_zr _) (fun c116 => ?_) (fun c116 => ?_)
    · exfalso; omega
    · refine z_aload_0 dX7_image_119 (n := 120) rfl ?_
      refine z_get dX7_image_120 (n := 123) rfl rfl fd_X7_66 rfl ?_
      refine z_iload_1 dX7_image_123 (n := 124) rfl ?_
      refine z_aload_0 dX7_image_124 (n := 125) rfl ?_
      refine z_get dX7_image_125 (n := 128) rfl rfl fd_X7_28 rfl ?_
      refine z_iload_1 dX7_image_128 (n := 129) rfl ?_
      refine z_zald dX7_image_129 (n := 130) rfl rfl (by omega) (by omega) (by decide) ?_
      refine z_zastX dX7_image_130 (n := 131) rfl rfl (by omega) (by omega) (by decide) (hco k) rfl ?_
      refine z_iinc_1 dX7_image_131 (n := 134) rfl (by decide) (fun w h => by cases h; try rfl) ?_
      refine z_goto dX7_image_134 (n := 113) (by decide) ?_
      rw [zq_eq, zq_zq]
      exact h9
set_option maxHeartbeats 4000000 in
theorem c_X7_image {G : zG} {sz : zSz} {ar : zAr} (hn : zr (sz 41 0)) (hco : ∀ i, ar 48 i = 0 ∨ ar 48 i = 1)  : zSem G mX7_image 1 [zR 41] (X sz ar) (zpi fun r u => (sz 41 0 = 0 ∧ r = -103 ∧ u = X sz ar) ∨ (sz 41 0 ≠ 0 ∧ r = sz 41 0 ∧ PIr sz ar u)) := by
  refine z_enter (L' := [some (zR 41), none]) (by decide +kernel) (Nat.le_of_ble_eq_true rfl) ⟨1, rfl⟩ ?_
  refine z_aload_0 dX7_image_0 (n := 1) rfl ?_
  refine z_get dX7_image_1 (n := 4) rfl rfl fd_X7_96 rfl ?_
  refine z_if_ne dX7_image_4 (n := 7) (tg := 10) rfl (by decide) (by first | assumption | exact ⟨by omega, by omega⟩ | exact zb_zr _) (fun c4 => ?_) (fun c4 => ?_)
  · refine z_aload_0 dX7_image_10 (n := 11) rfl ?_
    refine z_aload_0 dX7_image_11 (n := 12) rfl ?_
    refine z_get dX7_image_12 (n := 15) rfl rfl fd_X7_102 rfl ?_
    refine z_putX dX7_image_15 (n := 18) rfl rfl fw_X7_242 (by first | decide | simp) rfl ?_
    refine z_aload_0 dX7_image_18 (n := 19) rfl ?_
    refine z_aload_0 dX7_image_19 (n := 20) rfl ?_
    refine z_get dX7_image_20 (n := 23) rfl rfl fd_X7_96 rfl ?_
    refine z_putX dX7_image_23 (n := 26) rfl rfl fw_X7_245 (by first | decide | simp) rfl ?_
    refine z_aload_0 dX7_image_26 (n := 27) rfl ?_
    refine z_aload_0 dX7_image_27 (n := 28) rfl ?_
    refine z_get dX7_image_28 (n := 31) rfl rfl fd_X7_99 rfl ?_
    refine z_putX dX7_image_31 (n := 34) rfl rfl fw_X7_248 (by first | decide | simp) rfl ?_
    refine z_aload_0 dX7_image_34 (n := 35) rfl ?_
    refine z_get dX7_image_35 (n := 38) rfl rfl fd_X7_7 rfl ?_
    refine z_aload_0 dX7_image_38 (n := 39) rfl ?_
    refine z_get dX7_image_39 (n := 42) rfl rfl fd_X7_48 rfl ?_
    refine z_bipush dX7_image_42 (n := 44) rfl (by decide) ?_
    refine z_callS3v dX7_image_44 (n := 47) rfl ms_X7_copy lk_X7_251 (zrm (by decide) (by decide)) (Nat.le_of_ble_eq_true rfl) (c_X7_copy (N0 := 6) (N1 := 6) (fun _ _ => rfl) (fun _ _ => rfl) (fun _ _ => rfl) (by decide) (by decide) (by decide) (by decide) (by decide) (by decide)) (fun u hp => ?_)
    subst hp
    refine z_aload_0 dX7_image_47 (n := 48) rfl ?_
    refine z_get dX7_image_48 (n := 51) rfl rfl fd_X7_13 rfl ?_
    refine z_aload_0 dX7_image_51 (n := 52) rfl ?_
    refine z_get dX7_image_52 (n := 55) rfl rfl fd_X7_51 rfl ?_
    refine z_bipush dX7_image_55 (n := 57) rfl (by decide) ?_
    refine z_callS3v dX7_image_57 (n := 60) rfl ms_X7_copy lk_X7_251 (zrm (by decide) (by decide)) (Nat.le_of_ble_eq_true rfl) (c_X7_copy (N0 := 12) (N1 := 12) (fun _ _ => rfl) (fun _ _ => rfl) (fun _ _ => rfl) (by decide) (by decide) (by decide) (by decide) (by decide) (by decide)) (fun u hp => ?_)
    subst hp
    refine z_aload_0 dX7_image_60 (n := 61) rfl ?_
    refine z_get dX7_image_61 (n := 64) rfl rfl fd_X7_16 rfl ?_
    refine z_aload_0 dX7_image_64 (n := 65) rfl ?_
    refine z_get dX7_image_65 (n := 68) rfl rfl fd_X7_54 rfl ?_
    refine z_iconst dX7_image_68 (n := 69) rfl ?_
    refine z_callS3v dX7_image_69 (n := 72) rfl ms_X7_copy lk_X7_251 (zrm (by decide) (by decide)) (Nat.le_of_ble_eq_true rfl) (c_X7_copy (N0 := 3) (N1 := 3) (fun _ _ => rfl) (fun _ _ => rfl) (fun _ _ => rfl) (by decide) (by decide) (by decide) (by decide) (by decide) (by decide)) (fun u hp => ?_)
    subst hp
    refine z_aload_0 dX7_image_72 (n := 73) rfl ?_
    refine z_get dX7_image_73 (n := 76) rfl rfl fd_X7_19 rfl ?_
    refine z_aload_0 dX7_image_76 (n := 77) rfl ?_
    refine z_get dX7_image_77 (n := 80) rfl rfl fd_X7_57 rfl ?_
    refine z_bipush dX7_image_80 (n := 82) rfl (by decide) ?_
    refine z_callS3v dX7_image_82 (n := 85) rfl ms_X7_copy lk_X7_251 (zrm (by decide) (by decide)) (Nat.le_of_ble_eq_true rfl) (c_X7_copy (N0 := 48) (N1 := 48) (fun _ _ => rfl) (fun _ _ => rfl) (fun _ _ => rfl) (by decide) (by decide) (by decide) (by decide) (by decide) (by decide)) (fun u hp => ?_)
    subst hp
    refine z_aload_0 dX7_image_85 (n := 86) rfl ?_
    refine z_get dX7_image_86 (n := 89) rfl rfl fd_X7_22 rfl ?_
    refine z_aload_0 dX7_image_89 (n := 90) rfl ?_
    refine z_get dX7_image_90 (n := 93) rfl rfl fd_X7_60 rfl ?_
    refine z_bipush dX7_image_93 (n := 95) rfl (by decide) ?_
    refine z_callS3v dX7_image_95 (n := 98) rfl ms_X7_copy lk_X7_251 (zrm (by decide) (by decide)) (Nat.le_of_ble_eq_true rfl) (c_X7_copy (N0 := 6) (N1 := 6) (fun _ _ => rfl) (fun _ _ => rfl) (fun _ _ => rfl) (by decide) (by decide) (by decide) (by decide) (by decide) (by decide)) (fun u hp => ?_)
    subst hp
    refine z_aload_0 dX7_image_98 (n := 99) rfl ?_
    refine z_get dX7_image_99 (n := 102) rfl rfl fd_X7_25 rfl ?_
    refine z_aload_0 dX7_image_102 (n := 103) rfl ?_
    refine z_get dX7_image_103 (n := 106) rfl rfl fd_X7_63 rfl ?_
    refine z_bipush dX7_image_106 (n := 108) rfl (by decide) ?_
    refine z_callS3v dX7_image_108 (n := 111) rfl ms_X7_copy lk_X7_251 (zrm (by decide) (by decide)) (Nat.le_of_ble_eq_true rfl) (c_X7_copy (N0 := 6) (N1 := 6) (fun _ _ => rfl) (fun _ _ => rfl) (fun _ _ => rfl) (by decide) (by decide) (by decide) (by decide) (by decide) (by decide)) (fun u hp => ?_)
    subst hp
    refine z_iconst dX7_image_111 (n := 112) rfl ?_
    refine z_istore_1 dX7_image_112 (n := 113) rfl (by decide) (fun w h => by cases h; try rfl) ?_
    refine z_wk (P := fun r u => r = sz 41 0 ∧ ∃ sz' ar', u = X sz' (zq ar' 60 (zcp (ar' 48) (ar' 60) 0 0 6)) ∧ sz' = zz (zz (zz sz 41 19 (sz 41 3)) 41 20 (sz 41 0)) 41 21 (sz 41 6) ∧ ar' = zq (zq (zq (zq (zq (zq ar 54 (zcp (ar 42) (ar 54) 0 0 6)) 55 (zcp (ar 43) (ar 55) 0 0 12)) 56 (zcp (ar 44) (ar 56) 0 0 3)) 57 (zcp (ar 45) (ar 57) 0 0 48)) 58 (zcp (ar 46) (ar 58) 0 0 6)) 59 (zcp (ar 47) (ar 59) 0 0 6)) ?_ ?_
    · have h9 := lb_X7_image (G := G) (sz := zz (zz (zz sz 41 19 (sz 41 3)) 41 20 (sz 41 0)) 41 21 (sz 41 6)) (ar := zq (zq (zq (zq (zq (zq ar 54 (zcp (ar 42) (ar 54) 0 0 6)) 55 (zcp (ar 43) (ar 55) 0 0 12)) 56 (zcp (ar 44) (ar 56) 0 0 3)) 57 (zcp (ar 45) (ar 57) 0 0 48)) 58 (zcp (ar 46) (ar 58) 0 0 6)) 59 (zcp (ar 47) (ar 59) 0 0 6)) hco 6 0 (by omega) (by omega)
      rw [zcp_0, zq_self] at h9
      exact z_wk h9 (fun x v h => ⟨h.1, _, _, h.2, rfl, rfl⟩)
    · rintro x v ⟨hx, sz2, ar2, hv, e1, e2⟩
      subst e1
      subst e2
      refine Or.inr ⟨c4, hx, _, _, hv, rfl, rfl, rfl, rfl, rfl, rfl, rfl, rfl, rfl, rfl, fun j hj => ?_, fun i a b c => ?_, fun j hj => ?_⟩
      · rw [zz_ne hj, zz_ne hj, zz_ne hj]
      · rw [zz_ni c, zz_ni b, zz_ni a]
      · rw [zq_ne (by omega), zq_ne (by omega), zq_ne (by omega), zq_ne (by omega), zq_ne (by omega), zq_ne (by omega), zq_ne (by omega)]
  · refine z_bipush dX7_image_7 (n := 9) rfl (by decide) ?_
    refine z_ret_i dX7_image_9 rfl ?_
    exact Or.inl ⟨c4, rfl, rfl⟩
def PRr (sz : zSz) (ar : zAr) (u : zS) : Prop := ∃ sz' ar', u = X sz' ar' ∧ sz' 41 0 = sz 41 20 ∧ sz' 41 6 = sz 41 21 ∧ ar' 42 = zcp (ar 54) (ar 42) 0 0 6 ∧ ar' 43 = zcp (ar 55) (ar 43) 0 0 12 ∧ ar' 44 = zcp (ar 56) (ar 44) 0 0 3 ∧ ar' 45 = zcp (ar 57) (ar 45) 0 0 48 ∧ ar' 46 = zcp (ar 58) (ar 46) 0 0 6 ∧ ar' 47 = zcp (ar 59) (ar 47) 0 0 6 ∧ ar' 48 = zcp (ar 60) (ar 48) 0 0 6 ∧ (∀ j, j ≠ 41 → sz' j = sz j) ∧ (∀ i, i ≠ 0 → i ≠ 6 → sz' 41 i = sz 41 i) ∧ ∀ j, j < 42 ∨ 48 < j → ar' j = ar j
set_option maxHeartbeats 4000000 in
theorem lb_X7_restore {G : zG} {sz : zSz} {ar : zAr} (hco : ∀ i, ar 60 i = 0 ∨ ar 60 i = 1) : ∀ (m : Nat) (k : Int), 0 ≤ k → k + m = 6 → zWP G mX7_restore 1 (zpi fun r u => r = sz 41 0 ∧ u = X sz (zq ar 48 (zcp (ar 60) (ar 48) 0 0 6))) 116 [some (zR 41), some (zI k)] [] (X sz (zq ar 48 (zcp (ar 60) (ar 48) 0 0 k))) := by
  intro m
  induction m with
  | zero =>
    intro k hk0 hk
    have ek : k = 6 := by omega
    subst ek
    refine z_iload_1 dX7_restore_116 (n := 117) rfl ?_
    refine z_bipush dX7_restore_117 (n := 119) rfl (by decide) ?_
    refine z_icmp_ge dX7_restore_119 (n := 122) (tg := 140) rfl (by decide) (by first | assumption | exact ⟨by omega, by omega⟩ | exact zb_zr _) (by first | assumption | exact ⟨by omega, by omega⟩ | exact zb_zr _) (fun c119 => ?_) (fun c119 => ?_)
    · refine z_aload_0 dX7_restore_140 (n := 141) rfl ?_
      refine z_get dX7_restore_141 (n := 144) rfl rfl fd_X7_96 rfl ?_
      refine z_ret_i dX7_restore_144 rfl ?_
      exact ⟨rfl, rfl⟩
    · exfalso; omega
  | succ m ih =>
    intro k hk0 hk
    have h9 := ih (k + 1) (by omega) (by omega)
    rw [← zcp_s hk0] at h9
    refine z_iload_1 dX7_restore_116 (n := 117) rfl ?_
    refine z_bipush dX7_restore_117 (n := 119) rfl (by decide) ?_
    refine z_icmp_ge dX7_restore_119 (n := 122) (tg := 140) rfl (by decide) (by first | assumption | exact ⟨by omega, by omega⟩ | exact zb_zr _) (by first | assumption | exact ⟨by omega, by omega⟩ | exact zb_zr _) (fun c119 => ?_) (fun c119 => ?_)
    · exfalso; omega
    · refine z_aload_0 dX7_restore_122 (n := 123) rfl ?_
      refine z_get dX7_restore_123 (n := 126) rfl rfl fd_X7_28 rfl ?_
      refine z_iload_1 dX7_restore_126 (n := 127) rfl ?_
      refine z_aload_0 dX7_restore_127 (n := 128) rfl ?_
      refine z_get dX7_restore_128 (n := 131) rfl rfl fd_X7_66 rfl ?_
      refine z_iload_1 dX7_restore_131 (n := 132) rfl ?_
      refine z_zald dX7_restore_132 (n := 133) rfl rfl (by omega) (by omega) (by decide) ?_
      refine z_zastX dX7_restore_133 (n := 134) rfl rfl (by omega) (by omega) (by decide) (hco k) rfl ?_
      refine z_iinc_1 dX7_restore_134 (n := 137) rfl (by decide) (fun w h => by cases h; try rfl) ?_
      refine z_goto dX7_restore_137 (n := 116) (by decide) ?_
      rw [zq_eq, zq_zq]
      exact h9
set_option maxHeartbeats 4000000 in
theorem c_X7_restore {G : zG} {sz : zSz} {ar : zAr} (h3 : zr (sz 41 3)) (h19 : zr (sz 41 19)) (hco : ∀ i, ar 60 i = 0 ∨ ar 60 i = 1)  : zSem G mX7_restore 1 [zR 41] (X sz ar) (zpi fun r u => ((sz 41 19 = 0 ∨ sz 41 19 ≠ sz 41 3) ∧ r = -103 ∧ u = X sz ar) ∨ (¬ (sz 41 19 = 0 ∨ sz 41 19 ≠ sz 41 3) ∧ r = sz 41 20 ∧ PRr sz ar u)) := by
  refine z_enter (L' := [some (zR 41), none]) (by decide +kernel) (Nat.le_of_ble_eq_true rfl) ⟨1, rfl⟩ ?_
  have hno : zWP G mX7_restore 1 (zpi fun r u => r = -103 ∧ u = X sz ar) 18 [some (zR 41), none] [] (X sz ar) := by
    refine z_bipush dX7_restore_18 (n := 20) rfl (by decide) ?_
    refine z_ret_i dX7_restore_20 rfl ?_
    exact ⟨rfl, rfl⟩
  refine z_aload_0 dX7_restore_0 (n := 1) rfl ?_
  refine z_get dX7_restore_1 (n := 4) rfl rfl fd_X7_242 rfl ?_
  refine z_if_eq dX7_restore_4 (n := 7) (tg := 18) rfl (by decide) (by first | assumption | exact ⟨by omega, by omega⟩ | exact zb_zr _) (fun c4 => ?_) (fun c4 => ?_)
  · exact z_wk hno (fun x v h => Or.inl ⟨by omega, h⟩)
  · refine z_aload_0 dX7_restore_7 (n := 8) rfl ?_
    refine z_get dX7_restore_8 (n := 11) rfl rfl fd_X7_242 rfl ?_
    refine z_aload_0 dX7_restore_11 (n := 12) rfl ?_
    refine z_get dX7_restore_12 (n := 15) rfl rfl fd_X7_102 rfl ?_
    refine z_icmp_eq dX7_restore_15 (n := 18) (tg := 21) rfl (by decide) (by first | assumption | exact ⟨by omega, by omega⟩ | exact zb_zr _) (by first | assumption | exact ⟨by omega, by omega⟩ | exact zb_zr _) (fun c15 => ?_) (fun c15 => ?_)
    · refine z_aload_0 dX7_restore_21 (n := 22) rfl ?_
      refine z_aload_0 dX7_restore_22 (n := 23) rfl ?_
      refine z_get dX7_restore_23 (n := 26) rfl rfl fd_X7_245 rfl ?_
      refine z_putX dX7_restore_26 (n := 29) rfl rfl fw_X7_96 (by first | decide | simp) rfl ?_
      refine z_aload_0 dX7_restore_29 (n := 30) rfl ?_
      refine z_aload_0 dX7_restore_30 (n := 31) rfl ?_
      refine z_get dX7_restore_31 (n := 34) rfl rfl fd_X7_248 rfl ?_
      refine z_putX dX7_restore_34 (n := 37) rfl rfl fw_X7_99 (by first | decide | simp) rfl ?_
      refine z_aload_0 dX7_restore_37 (n := 38) rfl ?_
      refine z_get dX7_restore_38 (n := 41) rfl rfl fd_X7_48 rfl ?_
      refine z_aload_0 dX7_restore_41 (n := 42) rfl ?_
      refine z_get dX7_restore_42 (n := 45) rfl rfl fd_X7_7 rfl ?_
      refine z_bipush dX7_restore_45 (n := 47) rfl (by decide) ?_
      refine z_callS3v dX7_restore_47 (n := 50) rfl ms_X7_copy lk_X7_251 (zrm (by decide) (by decide)) (Nat.le_of_ble_eq_true rfl) (c_X7_copy (N0 := 6) (N1 := 6) (fun _ _ => rfl) (fun _ _ => rfl) (fun _ _ => rfl) (by decide) (by decide) (by decide) (by decide) (by decide) (by decide)) (fun u hp => ?_)
      subst hp
      refine z_aload_0 dX7_restore_50 (n := 51) rfl ?_
      refine z_get dX7_restore_51 (n := 54) rfl rfl fd_X7_51 rfl ?_
      refine z_aload_0 dX7_restore_54 (n := 55) rfl ?_
      refine z_get dX7_restore_55 (n := 58) rfl rfl fd_X7_13 rfl ?_
      refine z_bipush dX7_restore_58 (n := 60) rfl (by decide) ?_
      refine z_callS3v dX7_restore_60 (n := 63) rfl ms_X7_copy lk_X7_251 (zrm (by decide) (by decide)) (Nat.le_of_ble_eq_true rfl) (c_X7_copy (N0 := 12) (N1 := 12) (fun _ _ => rfl) (fun _ _ => rfl) (fun _ _ => rfl) (by decide) (by decide) (by decide) (by decide) (by decide) (by decide)) (fun u hp => ?_)
      subst hp
      refine z_aload_0 dX7_restore_63 (n := 64) rfl ?_
      refine z_get dX7_restore_64 (n := 67) rfl rfl fd_X7_54 rfl ?_
      refine z_aload_0 dX7_restore_67 (n := 68) rfl ?_
      refine z_get dX7_restore_68 (n := 71) rfl rfl fd_X7_16 rfl ?_
      refine z_iconst dX7_restore_71 (n := 72) rfl ?_
      refine z_callS3v dX7_restore_72 (n := 75) rfl ms_X7_copy lk_X7_251 (zrm (by decide) (by decide)) (Nat.le_of_ble_eq_true rfl) (c_X7_copy (N0 := 3) (N1 := 3) (fun _ _ => rfl) (fun _ _ => rfl) (fun _ _ => rfl) (by decide) (by decide) (by decide) (by decide) (by decide) (by decide)) (fun u hp => ?_)
      subst hp
      refine z_aload_0 dX7_restore_75 (n := 76) rfl ?_
      refine z_get dX7_restore_76 (n := 79) rfl rfl fd_X7_57 rfl ?_
      refine z_aload_0 dX7_restore_79 (n := 80) rfl ?_
      refine z_get dX7_restore_80 (n := 83) rfl rfl fd_X7_19 rfl ?_
      refine z_bipush dX7_restore_83 (n := 85) rfl (by decide) ?_
      refine z_callS3v dX7_restore_85 (n := 88) rfl ms_X7_copy lk_X7_251 (zrm (by decide) (by decide)) (Nat.le_of_ble_eq_true rfl) (c_X7_copy (N0 := 48) (N1 := 48) (fun _ _ => rfl) (fun _ _ => rfl) (fun _ _ => rfl) (by decide) (by decide) (by decide) (by decide) (by decide) (by decide)) (fun u hp => ?_)
      subst hp
      refine z_aload_0 dX7_restore_88 (n := 89) rfl ?_
      refine z_get dX7_restore_89 (n := 92) rfl rfl fd_X7_60 rfl ?_
      refine z_aload_0 dX7_restore_92 (n := 93) rfl ?_
      refine z_get dX7_restore_93 (n := 96) rfl rfl fd_X7_22 rfl ?_
      refine z_bipush dX7_restore_96 (n := 98) rfl (by decide) ?_
      refine z_callS3v dX7_restore_98 (n := 101) rfl ms_X7_copy lk_X7_251 (zrm (by decide) (by decide)) (Nat.le_of_ble_eq_true rfl) (c_X7_copy (N0 := 6) (N1 := 6) (fun _ _ => rfl) (fun _ _ => rfl) (fun _ _ => rfl) (by decide) (by decide) (by decide) (by decide) (by decide) (by decide)) (fun u hp => ?_)
      subst hp
      refine z_aload_0 dX7_restore_101 (n := 102) rfl ?_
      refine z_get dX7_restore_102 (n := 105) rfl rfl fd_X7_63 rfl ?_
      refine z_aload_0 dX7_restore_105 (n := 106) rfl ?_
      refine z_get dX7_restore_106 (n := 109) rfl rfl fd_X7_25 rfl ?_
      refine z_bipush dX7_restore_109 (n := 111) rfl (by decide) ?_
      refine z_callS3v dX7_restore_111 (n := 114) rfl ms_X7_copy lk_X7_251 (zrm (by decide) (by decide)) (Nat.le_of_ble_eq_true rfl) (c_X7_copy (N0 := 6) (N1 := 6) (fun _ _ => rfl) (fun _ _ => rfl) (fun _ _ => rfl) (by decide) (by decide) (by decide) (by decide) (by decide) (by decide)) (fun u hp => ?_)
      subst hp
      refine z_iconst dX7_restore_114 (n := 115) rfl ?_
      refine z_istore_1 dX7_restore_115 (n := 116) rfl (by decide) (fun w h => by cases h; try rfl) ?_
      refine z_wk (P := fun r u => r = sz 41 20 ∧ ∃ sz' ar', u = X sz' (zq ar' 48 (zcp (ar' 60) (ar' 48) 0 0 6)) ∧ sz' = zz (zz sz 41 0 (sz 41 20)) 41 6 (sz 41 21) ∧ ar' = zq (zq (zq (zq (zq (zq ar 42 (zcp (ar 54) (ar 42) 0 0 6)) 43 (zcp (ar 55) (ar 43) 0 0 12)) 44 (zcp (ar 56) (ar 44) 0 0 3)) 45 (zcp (ar 57) (ar 45) 0 0 48)) 46 (zcp (ar 58) (ar 46) 0 0 6)) 47 (zcp (ar 59) (ar 47) 0 0 6)) ?_ ?_
      · have h9 := lb_X7_restore (G := G) (sz := zz (zz sz 41 0 (sz 41 20)) 41 6 (sz 41 21)) (ar := zq (zq (zq (zq (zq (zq ar 42 (zcp (ar 54) (ar 42) 0 0 6)) 43 (zcp (ar 55) (ar 43) 0 0 12)) 44 (zcp (ar 56) (ar 44) 0 0 3)) 45 (zcp (ar 57) (ar 45) 0 0 48)) 46 (zcp (ar 58) (ar 46) 0 0 6)) 47 (zcp (ar 59) (ar 47) 0 0 6)) hco 6 0 (by omega) (by omega)
        rw [zcp_0, zq_self] at h9
        exact z_wk h9 (fun x v h => ⟨h.1, _, _, h.2, rfl, rfl⟩)
      · rintro x v ⟨hx, sz2, ar2, hv, e1, e2⟩
        subst e1
        subst e2
        refine Or.inr ⟨by omega, hx, _, _, hv, rfl, rfl, rfl, rfl, rfl, rfl, rfl, rfl, rfl, fun j hj => ?_, fun i a b => ?_, fun j hj => ?_⟩
        · rw [zz_ne hj, zz_ne hj]
        · rw [zz_ni b, zz_ni a]
        · rw [zq_ne (by omega), zq_ne (by omega), zq_ne (by omega), zq_ne (by omega), zq_ne (by omega), zq_ne (by omega), zq_ne (by omega)]
    · exact z_wk hno (fun x v h => Or.inl ⟨by omega, h⟩)
