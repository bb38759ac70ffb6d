/-! TreeActs: draws, digest -/
def dw (n : Int) : Nat → Int → List Int × Int
  | 0, s => ([], s)
  | i + 1, s => ((dw n i s).1 ++ [2 * (sd (dw n i s).2 / 65536 % n) + sd (sd (dw n i s).2) / 65536 % 2], sd (sd (dw n i s).2))
theorem dw_r {n : Int} (hn : 0 < n) {s : Int} (h0 : 0 ≤ s) (h1 : s < 2147483648) : ∀ i, Lt n (dw n i s).1 ∧ (dw n i s).1.length = i ∧ 0 ≤ (dw n i s).2 ∧ (dw n i s).2 < 2147483648 := by
  intro i
  induction i with
  | zero => exact ⟨Lt.nil, rfl, h0, h1⟩
  | succ i ih =>
    obtain ⟨a, b, c, d⟩ := ih
    have hs := sd_r (dw n i s).2
    have hs2 := sd_r (sd (dw n i s).2)
    refine ⟨fun y hy => ?_, ?_, hs2.1, hs2.2⟩
    · rcases List.mem_append.mp hy with hy | hy
      · exact a y hy
      · rw [List.mem_singleton.mp hy]
        have e1 := Int.emod_nonneg (sd (dw n i s).2 / 65536) (show n ≠ 0 by omega)
        have e2 := Int.emod_lt_of_pos (sd (dw n i s).2 / 65536) hn
        omega
    · show ((dw n i s).1 ++ [_]).length = i + 1
      rw [List.length_append, b]; rfl
set_option maxHeartbeats 4000000 in
theorem lo_X6_drawWord {G : zG} {sz : zSz} {ar : zAr} {s : Int} (hn : 0 < sz 3 4) (hn6 : sz 3 4 ≤ 6) (h0 : 0 ≤ s) (h1 : s < 2147483648) :
    ∀ (m i : Nat) (sz' : zSz) (ar' : zAr) (y2 y3 : Option zV), i + m = 4 → LR (sz' 38 1) (ar' 39) (dw (sz 3 4) i s).1 → sz' 40 0 = (dw (sz 3 4) i s).2 → (∀ j, j ≠ 38 → j ≠ 40 → sz' j = sz j) → (∀ j, j ≠ 39 → ar' j = ar j) →
    zWP G mX6_drawWordToScratch 1 (zpv fun u => ∃ sz' ar', u = X sz' ar' ∧ LR (sz' 38 1) (ar' 39) (dw (sz 3 4) 4 s).1 ∧ sz' 40 0 = (dw (sz 3 4) 4 s).2 ∧ (∀ j, j ≠ 38 → j ≠ 40 → sz' j = sz j) ∧ ∀ j, j ≠ 39 → ar' j = ar j) 9 [some (zR 0), some (zI i), y2, y3] [] (X sz' ar') := by
  intro m
  induction m with
  | zero =>
    intro i sz' ar' y2 y3 hi hL hs hF hG
    have ei : i = 4 := by omega
    subst ei
    refine z_iload_1 dX6_drawWordToScratch_9 (n := 10) rfl ?_
    refine z_iconst dX6_drawWordToScratch_10 (n := 11) rfl ?_
    refine z_icmp_ge dX6_drawWordToScratch_11 (n := 14) (tg := 65) rfl (by decide) (by first | assumption | exact ⟨by omega, by omega⟩ | exact zb_zr _) (by first | assumption | exact ⟨by omega, by omega⟩ | exact zb_zr _) (fun c11 => ?_) (fun c11 => ?_)
    · refine z_ret_v dX6_drawWordToScratch_65 rfl ?_
      exact ⟨_, _, rfl, hL, hs, hF, hG⟩
    · exfalso; omega
  | succ m ih =>
    intro i sz' ar' y2 y3 hi hL hs hF hG
    have e3 : sz' 3 = sz 3 := hF 3 (by decide) (by decide)
    have hd := dw_r hn h0 h1 i
    have hl := hL.1
    have hs1 := sd_r (dw (sz 3 4) i s).2
    have hs2 := sd_r (sd (dw (sz 3 4) i s).2)
    have c38 : cap 38 = 128 := rfl
    have hb1 : sd (sd (dw (sz 3 4) i s).2) / 65536 % 2 = 0 ∨ sd (sd (dw (sz 3 4) i s).2) / 65536 % 2 = 1 := by omega
    have hm0 := Int.emod_nonneg (sd (dw (sz 3 4) i s).2 / 65536) (show sz 3 4 ≠ 0 by omega)
    have hm1 := Int.emod_lt_of_pos (sd (dw (sz 3 4) i s).2 / 65536) hn
    refine z_iload_1 dX6_drawWordToScratch_9 (n := 10) rfl ?_
    refine z_iconst dX6_drawWordToScratch_10 (n := 11) rfl ?_
    refine z_icmp_ge dX6_drawWordToScratch_11 (n := 14) (tg := 65) rfl (by decide) (by first | assumption | exact ⟨by omega, by omega⟩ | exact zb_zr _) (by first | assumption | exact ⟨by omega, by omega⟩ | exact zb_zr _) (fun c11 => ?_) (fun c11 => ?_)
    · exfalso; omega
    · refine z_aload_0 dX6_drawWordToScratch_14 (n := 15) rfl ?_
      refine z_get dX6_drawWordToScratch_15 (n := 18) rfl rfl fd_X6_62 rfl ?_
      refine z_aload_0 dX6_drawWordToScratch_18 (n := 19) rfl ?_
      refine z_get dX6_drawWordToScratch_19 (n := 22) rfl rfl fd_X6_19 rfl ?_
      refine z_callV0i dX6_drawWordToScratch_22 (n := 25) rfl mv_X3_size lk_X6_98 rfl (zrm (by decide) (by decide)) (Nat.le_of_ble_eq_true rfl) (c_X3_size) (fun r u hp => ?_)
      obtain ⟨rfl, rfl⟩ := hp
      rw [e3]
      refine z_callV1i dX6_drawWordToScratch_25 (n := 28) rfl mv_X0_below lk_X6_204 rfl (zrm (by decide) (by decide)) (Nat.le_of_ble_eq_true rfl) (c_X0_below (by rw [hs]; omega) (by rw [hs]; omega) (by omega) (by omega)) (fun r u hp => ?_)
      obtain ⟨rfl, rfl⟩ := hp
      rw [hs]
      refine z_istore_2 dX6_drawWordToScratch_28 (n := 29) rfl (by decide) (fun w h => by cases h; try rfl) ?_
      refine z_aload_0 dX6_drawWordToScratch_29 (n := 30) rfl ?_
      refine z_get dX6_drawWordToScratch_30 (n := 33) rfl rfl fd_X6_62 rfl ?_
      refine z_iconst dX6_drawWordToScratch_33 (n := 34) rfl ?_
      refine z_callV1i dX6_drawWordToScratch_34 (n := 37) rfl mv_X0_below lk_X6_204 rfl (zrm (by decide) (by decide)) (Nat.le_of_ble_eq_true rfl) (c_X0_below (by rw [zz_eq]; omega) (by rw [zz_eq]; omega) (by omega) (by omega)) (fun r u hp => ?_)
      obtain ⟨rfl, rfl⟩ := hp
      rw [zz_eq]
      refine z_iconst dX6_drawWordToScratch_37 (n := 38) rfl ?_
      refine z_icmp_ne dX6_drawWordToScratch_38 (n := 41) (tg := 45) rfl (by decide) (by first | assumption | exact ⟨by omega, by omega⟩ | exact zb_zr _) (by first | assumption | exact ⟨by omega, by omega⟩ | exact zb_zr _) (fun c38 => ?_) (fun c38 => ?_)
      · refine z_iconst dX6_drawWordToScratch_45 (n := 46) rfl ?_
        refine z_istore_3 dX6_drawWordToScratch_46 (n := 47) rfl (by decide) (fun w h => by cases h; try rfl) ?_
        refine z_aload_0 dX6_drawWordToScratch_47 (n := 48) rfl ?_
        refine z_get dX6_drawWordToScratch_48 (n := 51) rfl rfl fd_X6_55 rfl ?_
        refine z_iload_2 dX6_drawWordToScratch_51 (n := 52) rfl ?_
        refine z_iload_3 dX6_drawWordToScratch_52 (n := 53) rfl ?_
        refine z_callS2i dX6_drawWordToScratch_53 (n := 56) rfl ms_X6_letterOf lk_X6_255 (zrm (by decide) (by decide)) (Nat.le_of_ble_eq_true rfl) (c_X6_letterOf2 (by omega)) (fun r u hp => ?_)
        obtain ⟨rfl, rfl⟩ := hp
        refine z_callV1v dX6_drawWordToScratch_56 (n := 59) rfl mv_X1_addAsIs lk_X6_259 (XL1 iL38) (zrm (by decide) (by decide)) (Nat.le_of_ble_eq_true rfl) (c_X1_addAsIs iL38 (by rw [zz_ne (by decide), zz_ne (by decide)]; omega) (by rw [zz_ne (by decide), zz_ne (by decide)]; omega)) (fun u hp => ?_)
        subst hp
        rw [zz_ne (show (38 : Nat) ≠ 40 by decide), zz_ne (show (38 : Nat) ≠ 40 by decide)]
        refine z_iinc_1 dX6_drawWordToScratch_59 (n := 62) rfl (by decide) (fun w h => by cases h; try rfl) ?_
        refine z_goto dX6_drawWordToScratch_62 (n := 9) (by decide) ?_
        have hbb : ∀ b : Int, b = sd (sd (dw (sz 3 4) i s).2) / 65536 % 2 → LR (sz' 38 1 + 1) (zf (ar' 39) (sz' 38 1) (2 * (sd (dw (sz 3 4) i s).2 / 65536 % sz 3 4) + b)) (dw (sz 3 4) (i + 1) s).1 := fun b hb => by rw [hb]; exact hL.add
        rw [show (i : Int) + 1 = ((i + 1 : Nat) : Int) by omega]
        refine ih (i + 1) _ _ _ _ (by omega) ?_ ?_ ?_ ?_
        · rw [zz_eq, zq_eq]; exact hbb _ (by omega)
        · rw [zz_ne (by decide), zz_eq]; rfl
        · intro j a b; rw [zz_ne a, zz_ne b, zz_ne b]; exact hF j a b
        · intro j a; rw [zq_ne a]; exact hG j a
      · refine z_iconst dX6_drawWordToScratch_41 (n := 42) rfl ?_
        refine z_goto dX6_drawWordToScratch_42 (n := 46) (by decide) ?_
        refine z_istore_3 dX6_drawWordToScratch_46 (n := 47) rfl (by decide) (fun w h => by cases h; try rfl) ?_
        refine z_aload_0 dX6_drawWordToScratch_47 (n := 48) rfl ?_
        refine z_get dX6_drawWordToScratch_48 (n := 51) rfl rfl fd_X6_55 rfl ?_
        refine z_iload_2 dX6_drawWordToScratch_51 (n := 52) rfl ?_
        refine z_iload_3 dX6_drawWordToScratch_52 (n := 53) rfl ?_
        refine z_callS2i dX6_drawWordToScratch_53 (n := 56) rfl ms_X6_letterOf lk_X6_255 (zrm (by decide) (by decide)) (Nat.le_of_ble_eq_true rfl) (c_X6_letterOf2 (by omega)) (fun r u hp => ?_)
        obtain ⟨rfl, rfl⟩ := hp
        refine z_callV1v dX6_drawWordToScratch_56 (n := 59) rfl mv_X1_addAsIs lk_X6_259 (XL1 iL38) (zrm (by decide) (by decide)) (Nat.le_of_ble_eq_true rfl) (c_X1_addAsIs iL38 (by rw [zz_ne (by decide), zz_ne (by decide)]; omega) (by rw [zz_ne (by decide), zz_ne (by decide)]; omega)) (fun u hp => ?_)
        subst hp
        rw [zz_ne (show (38 : Nat) ≠ 40 by decide), zz_ne (show (38 : Nat) ≠ 40 by decide)]
        refine z_iinc_1 dX6_drawWordToScratch_59 (n := 62) rfl (by decide) (fun w h => by cases h; try rfl) ?_
        refine z_goto dX6_drawWordToScratch_62 (n := 9) (by decide) ?_
        have hbb : ∀ b : Int, b = sd (sd (dw (sz 3 4) i s).2) / 65536 % 2 → LR (sz' 38 1 + 1) (zf (ar' 39) (sz' 38 1) (2 * (sd (dw (sz 3 4) i s).2 / 65536 % sz 3 4) + b)) (dw (sz 3 4) (i + 1) s).1 := fun b hb => by rw [hb]; exact hL.add
        rw [show (i : Int) + 1 = ((i + 1 : Nat) : Int) by omega]
        refine ih (i + 1) _ _ _ _ (by omega) ?_ ?_ ?_ ?_
        · rw [zz_eq, zq_eq]; exact hbb _ (by omega)
        · rw [zz_ne (by decide), zz_eq]; rfl
        · intro j a b; rw [zz_ne a, zz_ne b, zz_ne b]; exact hF j a b
        · intro j a; rw [zq_ne a]; exact hG j a
set_option maxHeartbeats 4000000 in
theorem c_X6_drawWord {G : zG} {sz : zSz} {ar : zAr} (hn : 0 < sz 3 4) (hn6 : sz 3 4 ≤ 6) (h0 : 0 ≤ sz 40 0) (h1 : sz 40 0 < 2147483648)  : zSem G mX6_drawWordToScratch 1 [zR 0] (X sz ar) (zpv fun u => ∃ sz' ar', u = X sz' ar' ∧ LR (sz' 38 1) (ar' 39) (dw (sz 3 4) 4 (sz 40 0)).1 ∧ sz' 40 0 = (dw (sz 3 4) 4 (sz 40 0)).2 ∧ (∀ j, j ≠ 38 → j ≠ 40 → sz' j = sz j) ∧ ∀ j, j ≠ 39 → ar' j = ar j) := by
  refine z_enter (L' := [some (zR 0), none, none, none]) (by decide +kernel) (Nat.le_of_ble_eq_true rfl) ⟨3, rfl⟩ ?_
  refine z_aload_0 dX6_drawWordToScratch_0 (n := 1) rfl ?_
  refine z_get dX6_drawWordToScratch_1 (n := 4) rfl rfl fd_X6_55 rfl ?_
  refine z_callV0v dX6_drawWordToScratch_4 (n := 7) rfl mv_X1_clear lk_X6_96 (XL1 iL38) (zrm (by decide) (by decide)) (Nat.le_of_ble_eq_true rfl) (c_X1_clear iL38) (fun u hp => ?_)
  subst hp
  refine z_iconst dX6_drawWordToScratch_7 (n := 8) rfl ?_
  refine z_istore_1 dX6_drawWordToScratch_8 (n := 9) rfl (by decide) (fun w h => by cases h; try rfl) ?_
  exact lo_X6_drawWord hn hn6 h0 h1 4 0 _ _ none none (by omega) (by rw [zz_eq]; exact LR.nil) (by rw [zz_ne (by decide)]; rfl) (fun j a b => zz_ne a) (fun j a => rfl)
def dR (n s : Int) : Int := sd (dw n 4 s).2 / 65536 % 256
def dO (kd nx : Int → Int) (n s : Int) : Int := rwd kd nx 8 (dw n 4 s).1 (dR n s)
def drS (kd nx : Int → Int) (n : Int) : Nat → Int → Int × Int × Int
  | 0, s => (0, 0, s)
  | i + 1, s => ((drS kd nx n i s).1 + dO kd nx n (drS kd nx n i s).2.2, (drS kd nx n i s).2.1 + (if dO kd nx n (drS kd nx n i s).2.2 = dR n (drS kd nx n i s).2.2 then 1 else 0), sd (dw n 4 (drS kd nx n i s).2.2).2)
theorem dO_r (kd nx : Int → Int) (n s : Int) : 0 ≤ dO kd nx n s ∧ dO kd nx n s < 256 ∧ 0 ≤ dR n s ∧ dR n s < 256 := by
  have h : 0 ≤ dR n s ∧ dR n s < 256 := by unfold dR; omega
  have := rwd_r kd nx 8 (dw n 4 s).1 (dR n s) h.1 (by have := h.2; omega)
  exact ⟨this.1, this.2, h⟩
theorem drS_r (kd nx : Int → Int) (n : Int) {s : Int} (h0 : 0 ≤ s) (h1 : s < 2147483648) : ∀ i, 0 ≤ (drS kd nx n i s).1 ∧ (drS kd nx n i s).1 ≤ i * 256 ∧ 0 ≤ (drS kd nx n i s).2.1 ∧ (drS kd nx n i s).2.1 ≤ i ∧ 0 ≤ (drS kd nx n i s).2.2 ∧ (drS kd nx n i s).2.2 < 2147483648 := by
  intro i
  induction i with
  | zero => exact ⟨Int.le_refl 0, Int.le_refl 0, Int.le_refl 0, Int.le_refl 0, h0, h1⟩
  | succ i ih =>
    have := dO_r kd nx n (drS kd nx n i s).2.2
    have hs := sd_r (dw n 4 (drS kd nx n i s).2.2).2
    have hi : 0 ≤ (if dO kd nx n (drS kd nx n i s).2.2 = dR n (drS kd nx n i s).2.2 then (1 : Int) else 0) ∧ (if dO kd nx n (drS kd nx n i s).2.2 = dR n (drS kd nx n i s).2.2 then (1 : Int) else 0) ≤ 1 := by split <;> decide
    refine ⟨?_, ?_, ?_, ?_, hs.1, hs.2⟩
    · show 0 ≤ (drS kd nx n i s).1 + dO kd nx n (drS kd nx n i s).2.2; omega
    · show (drS kd nx n i s).1 + dO kd nx n (drS kd nx n i s).2.2 ≤ _; omega
    · show 0 ≤ (drS kd nx n i s).2.1 + _; omega
    · show (drS kd nx n i s).2.1 + _ ≤ _; omega
set_option maxHeartbeats 4000000 in
theorem lo_X6_drawn {G : zG} {ws : Int → List Int} {sz : zSz} {ar : zAr} {ti s q : Int} (hC : CK ws sz ar) (hn : 0 < sz 3 4) (h0 : 0 ≤ s) (h1 : s < 2147483648) (ht0 : 1 ≤ ti) (ht1 : ti ≤ 30) (hq0 : 0 ≤ q) (hq1 : q < 3) :
    ∀ (m i : Nat) (sz' : zSz) (ar' : zAr) (y7 y8 : Option zV), (∀ w, y7 = some w → zcat w = 1) → (i : Int) + m = ti → sz' 40 0 = (drS (ar 4) (ar 5) (sz 3 4) i s).2.2 → Fg sz ar sz' ar' →
    zWP G mX6_drawn 4 (zpi fun r u => r = (if q = 0 then (drS (ar 4) (ar 5) (sz 3 4) ti.toNat s).1 else if q = 1 then (drS (ar 4) (ar 5) (sz 3 4) ti.toNat s).2.1 else (drS (ar 4) (ar 5) (sz 3 4) ti.toNat s).2.2) ∧ ∃ sz' ar', u = X sz' ar' ∧ Fg sz ar sz' ar') 57 [some (zR 0), some (zI ti), some (zI s), some (zI q), some (zI (drS (ar 4) (ar 5) (sz 3 4) i s).1), some (zI (drS (ar 4) (ar 5) (sz 3 4) i s).2.1), some (zI i), y7, y8] [] (X sz' ar') := by
  intro m
  induction m with
  | zero =>
    intro i sz' ar' y7 y8 h7 hi hs hF
    have ei : i = ti.toNat := by omega
    subst ei
    refine z_iload_6 dX6_drawn_57 (n := 59) rfl ?_
    refine z_iload_1 dX6_drawn_59 (n := 60) rfl ?_
    refine z_icmp_ge dX6_drawn_60 (n := 63) (tg := 126) rfl (by decide) (by first | assumption | exact ⟨by omega, by omega⟩ | exact zb_zr _) (by first | assumption | exact ⟨by omega, by omega⟩ | exact zb_zr _) (fun c60 => ?_) (fun c60 => ?_)
    · refine z_iload_3 dX6_drawn_126 (n := 127) rfl ?_
      refine z_if_ne dX6_drawn_127 (n := 130) (tg := 133) rfl (by decide) (by first | assumption | exact ⟨by omega, by omega⟩ | exact zb_zr _) (fun c127 => ?_) (fun c127 => ?_)
      · refine z_iload_3 dX6_drawn_133 (n := 134) rfl ?_
        refine z_iconst dX6_drawn_134 (n := 135) rfl ?_
        refine z_icmp_ne dX6_drawn_135 (n := 138) (tg := 143) rfl (by decide) (by first | assumption | exact ⟨by omega, by omega⟩ | exact zb_zr _) (by first | assumption | exact ⟨by omega, by omega⟩ | exact zb_zr _) (fun c135 => ?_) (fun c135 => ?_)
        · refine z_aload_0 dX6_drawn_143 (n := 144) rfl ?_
          refine z_get dX6_drawn_144 (n := 147) rfl rfl fd_X6_62 rfl ?_
          refine z_callV0i dX6_drawn_147 (n := 150) rfl mv_X0_seedNow lk_X6_207 rfl (zrm (by decide) (by decide)) (Nat.le_of_ble_eq_true rfl) (c_X0_seedNow) (fun r u hp => ?_)
          obtain ⟨rfl, rfl⟩ := hp
          rw [hs]
          refine z_ret_i dX6_drawn_150 rfl ?_
          first | exact ⟨by rw [if_neg c127, if_pos c135], _, _, rfl, hF⟩ | exact ⟨by rw [if_neg c127, if_neg c135], _, _, rfl, hF⟩
        · refine z_iload_5 dX6_drawn_138 (n := 140) rfl ?_
          refine z_goto dX6_drawn_140 (n := 150) (by decide) ?_
          refine z_ret_i dX6_drawn_150 rfl ?_
          first | exact ⟨by rw [if_neg c127, if_pos c135], _, _, rfl, hF⟩ | exact ⟨by rw [if_neg c127, if_neg c135], _, _, rfl, hF⟩
      · refine z_iload_4 dX6_drawn_130 (n := 132) rfl ?_
        refine z_ret_i dX6_drawn_132 rfl ?_
        exact ⟨by rw [if_pos c127], _, _, rfl, hF⟩
    · exfalso; omega
  | succ m ih =>
    intro i sz' ar' y7 y8 h7 hi hs hF
    have e3 : sz' 3 = sz 3 := hF.1 3 (by omega)
    have e4 : ar' 4 = ar 4 := hF.2 4 (by omega) (by omega) (by omega)
    have e5 : ar' 5 = ar 5 := hF.2 5 (by omega) (by omega) (by omega)
    have hM' := (hC.g hF).1
    have hn6 := hM'.2.1
    rw [e3] at hn6
    have hr := drS_r (ar 4) (ar 5) (sz 3 4) h0 h1 i
    have hd := dw_r hn hr.2.2.2.2.1 hr.2.2.2.2.2 4
    have hs1 := sd_r (dw (sz 3 4) 4 (drS (ar 4) (ar 5) (sz 3 4) i s).2.2).2
    have ho := dO_r (ar 4) (ar 5) (sz 3 4) (drS (ar 4) (ar 5) (sz 3 4) i s).2.2
    have c38 : cap 38 = 128 := rfl
    refine z_iload_6 dX6_drawn_57 (n := 59) rfl ?_
    refine z_iload_1 dX6_drawn_59 (n := 60) rfl ?_
    refine z_icmp_ge dX6_drawn_60 (n := 63) (tg := 126) rfl (by decide) (by first | assumption | exact ⟨by omega, by omega⟩ | exact zb_zr _) (by first | assumption | exact ⟨by omega, by omega⟩ | exact zb_zr _) (fun c60 => ?_) (fun c60 => ?_)
    · exfalso; omega
    · refine z_aload_0 dX6_drawn_63 (n := 64) rfl ?_
      refine z_callV0v dX6_drawn_64 (n := 67) rfl mv_X6_drawWordToScratch lk_X6_201 rfl (zrm (by decide) (by decide)) (Nat.le_of_ble_eq_true rfl) (c_X6_drawWord (by rw [e3]; omega) (by rw [e3]; omega) (by rw [hs]; omega) (by rw [hs]; omega)) (fun u hp => ?_)
      obtain ⟨sz2, ar2, rfl, hL2, hs2, hF2, hG2⟩ := hp
      rw [e3, hs] at hL2 hs2
      have hFg2 : Fg sz ar sz2 ar2 := ⟨fun j a => (hF2 j (by omega) (by omega)).trans (hF.1 j a), fun j a b c => (hG2 j (by omega)).trans (hF.2 j a b c)⟩
      refine z_aload_0 dX6_drawn_67 (n := 68) rfl ?_
      refine z_get dX6_drawn_68 (n := 71) rfl rfl fd_X6_62 rfl ?_
      refine z_sipush dX6_drawn_71 (n := 74) rfl (by decide) ?_
      refine z_callV1i dX6_drawn_74 (n := 77) rfl mv_X0_below lk_X6_204 rfl (zrm (by decide) (by decide)) (Nat.le_of_ble_eq_true rfl) (c_X0_below (by rw [hs2]; omega) (by rw [hs2]; omega) (by omega) (by omega)) (fun r u hp => ?_)
      obtain ⟨rfl, rfl⟩ := hp
      rw [hs2]
      rw [show sd (dw (sz 3 4) 4 (drS (ar 4) (ar 5) (sz 3 4) i s).2.2).2 / 65536 % 256 = dR (sz 3 4) (drS (ar 4) (ar 5) (sz 3 4) i s).2.2 from rfl]
      have e3b : sz2 3 = sz 3 := hFg2.1 3 (by omega)
      have e4b : ar2 4 = ar 4 := hFg2.2 4 (by omega) (by omega) (by omega)
      have e5b : ar2 5 = ar 5 := hFg2.2 5 (by omega) (by omega) (by omega)
      refine z_istore_7 dX6_drawn_77 (n := 79) rfl (by decide) (fun w h => by cases h; try rfl) ?_
      refine z_aload_0 dX6_drawn_79 (n := 80) rfl ?_
      refine z_get dX6_drawn_80 (n := 83) rfl rfl fd_X6_19 rfl ?_
      refine z_aload_0 dX6_drawn_83 (n := 84) rfl ?_
      refine z_get dX6_drawn_84 (n := 87) rfl rfl fd_X6_55 rfl ?_
      refine z_iload_7 dX6_drawn_87 (n := 89) rfl ?_
      refine z_bipush dX6_drawn_89 (n := 91) rfl (by decide) ?_
      refine z_callV3i dX6_drawn_91 (n := 94) rfl mv_X3_rowAfterWord lk_X6_157 rfl (zrm (by decide) (by decide)) (Nat.le_of_ble_eq_true rfl) (c_X3_rowAfterWord iL38 (by rw [zz_ne (by decide), e3b, e4b, e5b]; exact hC.1) (by rw [zz_ne (by decide)]; exact hL2) (by rw [zz_ne (by decide), e3b]; exact hd.1) (by omega) (by omega) (by omega) ho.2.2.1 (show _ < 256 from ho.2.2.2)) (fun r u hp => ?_)
      obtain ⟨rfl, rfl⟩ := hp
      rw [e4b, e5b]
      rw [show rwd (ar 4) (ar 5) (8 : Int).toNat (dw (sz 3 4) 4 (drS (ar 4) (ar 5) (sz 3 4) i s).2.2).1 (dR (sz 3 4) (drS (ar 4) (ar 5) (sz 3 4) i s).2.2) = dO (ar 4) (ar 5) (sz 3 4) (drS (ar 4) (ar 5) (sz 3 4) i s).2.2 from rfl]
      have h9 := ih (i + 1) (zz sz2 40 0 (sd (dw (sz 3 4) 4 (drS (ar 4) (ar 5) (sz 3 4) i s).2.2).2)) ar2 (some (zI (dR (sz 3 4) (drS (ar 4) (ar 5) (sz 3 4) i s).2.2))) (some (zI (dO (ar 4) (ar 5) (sz 3 4) (drS (ar 4) (ar 5) (sz 3 4) i s).2.2))) (fun w h => by cases h; rfl) (by omega) (by rw [zz_eq]; rfl) ⟨fun j a => (zz_ne (by omega)).trans (hFg2.1 j a), hFg2.2⟩
      rw [show ((i + 1 : Nat) : Int) = (i : Int) + 1 by omega, show (drS (ar 4) (ar 5) (sz 3 4) (i + 1) s).1 = (drS (ar 4) (ar 5) (sz 3 4) i s).1 + dO (ar 4) (ar 5) (sz 3 4) (drS (ar 4) (ar 5) (sz 3 4) i s).2.2 from rfl, show (drS (ar 4) (ar 5) (sz 3 4) (i + 1) s).2.1 = (drS (ar 4) (ar 5) (sz 3 4) i s).2.1 + (if dO (ar 4) (ar 5) (sz 3 4) (drS (ar 4) (ar 5) (sz 3 4) i s).2.2 = dR (sz 3 4) (drS (ar 4) (ar 5) (sz 3 4) i s).2.2 then 1 else 0) from rfl] at h9
      refine z_istore_8 dX6_drawn_94 (n := 96) rfl (by decide) (fun w h => by cases h; try rfl) ?_
      refine z_iload_4 dX6_drawn_96 (n := 98) rfl ?_
      refine z_iload_8 dX6_drawn_98 (n := 100) rfl ?_
      refine z_iadd dX6_drawn_100 (n := 101) rfl ?_
      refine z_istore_4 dX6_drawn_101 (n := 103) rfl (by decide) (fun w h => by cases h; try rfl) ?_
      refine z_iload_5 dX6_drawn_103 (n := 105) rfl ?_
      refine z_iload_8 dX6_drawn_105 (n := 107) rfl ?_
      refine z_iload_7 dX6_drawn_107 (n := 109) rfl ?_
      refine z_icmp_ne dX6_drawn_109 (n := 112) (tg := 116) rfl (by decide) (by first | assumption | exact ⟨by omega, by omega⟩ | exact zb_zr _) (by first | assumption | exact ⟨by omega, by omega⟩ | exact zb_zr _) (fun c109 => ?_) (fun c109 => ?_)
      · rw [if_neg c109] at h9
        refine z_iconst dX6_drawn_116 (n := 117) rfl ?_
        refine z_iadd dX6_drawn_117 (n := 118) rfl ?_
        refine z_istore_5 dX6_drawn_118 (n := 120) rfl (by decide) (fun w h => by cases h; try rfl) ?_
        refine z_iinc_6 dX6_drawn_120 (n := 123) rfl (by decide) (fun w h => by cases h; try rfl) ?_
        refine z_goto dX6_drawn_123 (n := 57) (by decide) ?_
        exact h9
      · rw [if_pos c109] at h9
        refine z_iconst dX6_drawn_112 (n := 113) rfl ?_
        refine z_goto dX6_drawn_113 (n := 117) (by decide) ?_
        refine z_iadd dX6_drawn_117 (n := 118) rfl ?_
        refine z_istore_5 dX6_drawn_118 (n := 120) rfl (by decide) (fun w h => by cases h; try rfl) ?_
        refine z_iinc_6 dX6_drawn_120 (n := 123) rfl (by decide) (fun w h => by cases h; try rfl) ?_
        refine z_goto dX6_drawn_123 (n := 57) (by decide) ?_
        exact h9
set_option maxHeartbeats 4000000 in
theorem c_X6_drawn {G : zG} {sz : zSz} {ar : zAr} {ws : Int → List Int} {ti s q : Int} (ht : zr ti) (hs : zr s) (hq : zr q) (hC : CK ws sz ar)  : zSem G mX6_drawn 4 [zR 0, zI ti, zI s, zI q] (X sz ar) (zpi fun r u => r = (if ¬ (1 ≤ ti ∧ ti ≤ 30 ∧ 0 ≤ s ∧ 0 ≤ q ∧ q < 3) then -102 else if sz 3 4 = 0 then -103 else (if q = 0 then (drS (ar 4) (ar 5) (sz 3 4) ti.toNat s).1 else if q = 1 then (drS (ar 4) (ar 5) (sz 3 4) ti.toNat s).2.1 else (drS (ar 4) (ar 5) (sz 3 4) ti.toNat s).2.2)) ∧ ∃ sz' ar', u = X sz' ar' ∧ Fg sz ar sz' ar') := by
  refine z_enter (L' := [some (zR 0), some (zI ti), some (zI s), some (zI q), none, none, none, none, none]) (by decide +kernel) (Nat.le_of_ble_eq_true rfl) ⟨5, rfl⟩ ?_
  have hn := hC.1.1
  have hn6 := hC.1.2.1
  have hss := hs.2
  refine z_iload_1 dX6_drawn_0 (n := 1) rfl ?_
  refine z_iconst dX6_drawn_1 (n := 2) rfl ?_
  refine z_icmp_lt dX6_drawn_2 (n := 5) (tg := 24) rfl (by decide) (by first | assumption | exact ⟨by omega, by omega⟩ | exact zb_zr _) (by first | assumption | exact ⟨by omega, by omega⟩ | exact zb_zr _) (fun c2 => ?_) (fun c2 => ?_)
  · refine z_bipush dX6_drawn_24 (n := 26) rfl (by decide) ?_
    refine z_ret_i dX6_drawn_26 rfl ?_
    exact ⟨by rw [if_pos (by omega)], _, _, rfl, Fg.rf⟩
  · refine z_iload_1 dX6_drawn_5 (n := 6) rfl ?_
    refine z_bipush dX6_drawn_6 (n := 8) rfl (by decide) ?_
    refine z_icmp_gt dX6_drawn_8 (n := 11) (tg := 24) rfl (by decide) (by first | assumption | exact ⟨by omega, by omega⟩ | exact zb_zr _) (by first | assumption | exact ⟨by omega, by omega⟩ | exact zb_zr _) (fun c8 => ?_) (fun c8 => ?_)
    · refine z_bipush dX6_drawn_24 (n := 26) rfl (by decide) ?_
      refine z_ret_i dX6_drawn_26 rfl ?_
      exact ⟨by rw [if_pos (by omega)], _, _, rfl, Fg.rf⟩
    · refine z_iload_2 dX6_drawn_11 (n := 12) rfl ?_
      refine z_if_lt dX6_drawn_12 (n := 15) (tg := 24) rfl (by decide) (by first | assumption | exact ⟨by omega, by omega⟩ | exact zb_zr _) (fun c12 => ?_) (fun c12 => ?_)
      · refine z_bipush dX6_drawn_24 (n := 26) rfl (by decide) ?_
        refine z_ret_i dX6_drawn_26 rfl ?_
        exact ⟨by rw [if_pos (by omega)], _, _, rfl, Fg.rf⟩
      · refine z_iload_3 dX6_drawn_15 (n := 16) rfl ?_
        refine z_if_lt dX6_drawn_16 (n := 19) (tg := 24) rfl (by decide) (by first | assumption | exact ⟨by omega, by omega⟩ | exact zb_zr _) (fun c16 => ?_) (fun c16 => ?_)
        · refine z_bipush dX6_drawn_24 (n := 26) rfl (by decide) ?_
          refine z_ret_i dX6_drawn_26 rfl ?_
          exact ⟨by rw [if_pos (by omega)], _, _, rfl, Fg.rf⟩
        · refine z_iload_3 dX6_drawn_19 (n := 20) rfl ?_
          refine z_iconst dX6_drawn_20 (n := 21) rfl ?_
          refine z_icmp_lt dX6_drawn_21 (n := 24) (tg := 27) rfl (by decide) (by first | assumption | exact ⟨by omega, by omega⟩ | exact zb_zr _) (by first | assumption | exact ⟨by omega, by omega⟩ | exact zb_zr _) (fun c21 => ?_) (fun c21 => ?_)
          · refine z_aload_0 dX6_drawn_27 (n := 28) rfl ?_
            refine z_get dX6_drawn_28 (n := 31) rfl rfl fd_X6_19 rfl ?_
            refine z_callV0i dX6_drawn_31 (n := 34) rfl mv_X3_size lk_X6_98 rfl (zrm (by decide) (by decide)) (Nat.le_of_ble_eq_true rfl) (c_X3_size) (fun r u hp => ?_)
            obtain ⟨rfl, rfl⟩ := hp
            refine z_if_ne dX6_drawn_34 (n := 37) (tg := 40) rfl (by decide) (by first | assumption | exact ⟨by omega, by omega⟩ | exact zb_zr _) (fun c34 => ?_) (fun c34 => ?_)
            · refine z_iconst dX6_drawn_40 (n := 41) rfl ?_
              refine z_istore_4 dX6_drawn_41 (n := 43) rfl (by decide) (fun w h => by cases h; try rfl) ?_
              refine z_iconst dX6_drawn_43 (n := 44) rfl ?_
              refine z_istore_5 dX6_drawn_44 (n := 46) rfl (by decide) (fun w h => by cases h; try rfl) ?_
              refine z_aload_0 dX6_drawn_46 (n := 47) rfl ?_
              refine z_get dX6_drawn_47 (n := 50) rfl rfl fd_X6_62 rfl ?_
              refine z_iload_2 dX6_drawn_50 (n := 51) rfl ?_
              refine z_callV1v dX6_drawn_51 (n := 54) rfl mv_X0_startAt lk_X6_198 rfl (zrm (by decide) (by decide)) (Nat.le_of_ble_eq_true rfl) (c_X0_startAt (by first | assumption | exact ⟨by omega, by omega⟩ | exact zb_zr _)) (fun u hp => ?_)
              subst hp
              refine z_iconst dX6_drawn_54 (n := 55) rfl ?_
              refine z_istore_6 dX6_drawn_55 (n := 57) rfl (by decide) (fun w h => by cases h; try rfl) ?_
              rw [if_neg (show ¬ ¬ (1 ≤ ti ∧ ti ≤ 30 ∧ 0 ≤ s ∧ 0 ≤ q ∧ q < 3) by omega), if_neg (show ¬ sz 3 4 = 0 by omega)]
              exact lo_X6_drawn hC (by omega) (by omega) (by omega) (by omega) (by omega) (by omega) (by omega) ti.toNat 0 _ _ none none (fun w h => by cases h) (by omega) (by rw [zz_eq]; rfl) ⟨fun j a => zz_ne (by omega), fun j _ _ _ => rfl⟩
            · refine z_bipush dX6_drawn_37 (n := 39) rfl (by decide) ?_
              refine z_ret_i dX6_drawn_39 rfl ?_
              exact ⟨by rw [if_neg (by omega), if_pos (by omega)], _, _, rfl, Fg.rf⟩
          · refine z_bipush dX6_drawn_24 (n := 26) rfl (by decide) ?_
            refine z_ret_i dX6_drawn_26 rfl ?_
            exact ⟨by rw [if_pos (by omega)], _, _, rfl, Fg.rf⟩
