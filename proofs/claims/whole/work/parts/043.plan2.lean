/-! Plan: nexts, reach, core -/
set_option maxHeartbeats 4000000 in
theorem c_X3_nextsOf {G : zG} {sz : zSz} {ar : zAr} {s : Int} (h0 : 0 ≤ s) (h1 : s < sz 3 4) (hM : MOK (sz 3 4) (ar 4) (ar 5))  : zSem G mX3_nextsOf 1 [zR 3, zI s] (X sz ar) (zpi fun r u => r = nxs (ar 4) (ar 5) s ∧ u = X sz ar) := by
  refine z_enter (L' := [some (zR 3), some (zI s), none, none, none]) (by decide +kernel) (Nat.le_of_ble_eq_true rfl) ⟨3, rfl⟩ ?_
  have hn := hM.1
  have hn6 := hM.2.1
  have hg0 := hM.go (s := s) (w := 0) h0 h1 (by omega) (by omega)
  have hg1 := hM.go (s := s) (w := 1) h0 h1 (by omega) (by omega)
  have hpw : ∀ k : Nat, 0 ≤ 1 * (2 : Int) ^ k := fun k => by have := p2_pos k; omega
  have H2 : ∀ y, zWP G mX3_nextsOf 1 (zpi fun r u => r = nxs (ar 4) (ar 5) s ∧ u = X sz ar) 4 [some (zR 3), some (zI s), some (zI (zor (zor 0 (bitS (gon (ar 4) (ar 5) s 0))) (bitS (gon (ar 4) (ar 5) s 1)))), some (zI 2), y] [] (X sz ar) := by
    intro y
    refine z_iload_3 dX3_nextsOf_4 (n := 5) rfl ?_
    refine z_iconst dX3_nextsOf_5 (n := 6) rfl ?_
    refine z_icmp_gt dX3_nextsOf_6 (n := 9) (tg := 43) rfl (by decide) (by first | assumption | exact ⟨by omega, by omega⟩ | exact zb_zr _) (by first | assumption | exact ⟨by omega, by omega⟩ | exact zb_zr _) (fun c6 => ?_) (fun c6 => ?_)
    · refine z_iload_2 dX3_nextsOf_43 (n := 44) rfl ?_
      refine z_ret_i dX3_nextsOf_44 rfl ?_
      exact ⟨rfl, rfl⟩
    · exfalso; omega
  have H1 : ∀ y, zWP G mX3_nextsOf 1 (zpi fun r u => r = nxs (ar 4) (ar 5) s ∧ u = X sz ar) 4 [some (zR 3), some (zI s), some (zI (zor 0 (bitS (gon (ar 4) (ar 5) s 0)))), some (zI 1), y] [] (X sz ar) := by
    intro y
    have h9 := H2 (some (zI (gon (ar 4) (ar 5) s 1)))
    refine z_iload_3 dX3_nextsOf_4 (n := 5) rfl ?_
    refine z_iconst dX3_nextsOf_5 (n := 6) rfl ?_
    refine z_icmp_gt dX3_nextsOf_6 (n := 9) (tg := 43) rfl (by decide) (by first | assumption | exact ⟨by omega, by omega⟩ | exact zb_zr _) (by first | assumption | exact ⟨by omega, by omega⟩ | exact zb_zr _) (fun c6 => ?_) (fun c6 => ?_)
    · exfalso; omega
    · refine z_aload_0 dX3_nextsOf_9 (n := 10) rfl ?_
      refine z_iload_1 dX3_nextsOf_10 (n := 11) rfl ?_
      refine z_iload_3 dX3_nextsOf_11 (n := 12) rfl ?_
      refine z_callV2i dX3_nextsOf_12 (n := 15) rfl mv_X3_goesOn lk_X3_71 rfl (zrm (by decide) (by decide)) (Nat.le_of_ble_eq_true rfl) (c_X3_goesOn (by first | assumption | exact ⟨by omega, by omega⟩ | exact zb_zr _) (by omega) hM) (fun r u hp => ?_)
      obtain ⟨rfl, rfl⟩ := hp
      rw [if_pos (by omega)]
      refine z_istore_4 dX3_nextsOf_15 (n := 17) rfl (by decide) (fun w h => by cases h; try rfl) ?_
      refine z_iload_2 dX3_nextsOf_17 (n := 18) rfl ?_
      refine z_aload_0 dX3_nextsOf_18 (n := 19) rfl ?_
      refine z_iload_4 dX3_nextsOf_19 (n := 21) rfl ?_
      refine z_callV1i dX3_nextsOf_21 (n := 24) rfl mv_X3_has lk_X3_61 rfl (zrm (by decide) (by decide)) (Nat.le_of_ble_eq_true rfl) (c_X3_has (by first | assumption | exact ⟨by omega, by omega⟩ | exact zb_zr _) (by first | assumption | exact ⟨by omega, by omega⟩ | exact zb_zr _)) (fun r u hp => ?_)
      obtain ⟨rfl, rfl⟩ := hp
      refine z_ifB_eq dX3_nextsOf_24 (n := 27) (tg := 34) rfl (by decide) (fun c24 => ?_) (fun c24 => ?_)
      · rw [show bitS (gon (ar 4) (ar 5) s 1) = 0 from if_neg (by omega)] at h9
        refine z_iconst dX3_nextsOf_34 (n := 35) rfl ?_
        refine z_ior dX3_nextsOf_35 (n := 36) rfl (by first | omega | exact zor_0 _ _ | exact hpw _) (by first | omega | exact zor_0 _ _ | exact hpw _) ?_
        refine z_istore_2 dX3_nextsOf_36 (n := 37) rfl (by decide) (fun w h => by cases h; try rfl) ?_
        refine z_iinc_3 dX3_nextsOf_37 (n := 40) rfl (by decide) (fun w h => by cases h; try rfl) ?_
        refine z_goto dX3_nextsOf_40 (n := 4) (by decide) ?_
        exact h9
      · rw [show bitS (gon (ar 4) (ar 5) s 1) = 1 * 2 ^ (gon (ar 4) (ar 5) s 1).toNat by unfold bitS; rw [if_pos c24.1, Int.one_mul]] at h9
        refine z_iconst dX3_nextsOf_27 (n := 28) rfl ?_
        refine z_iload_4 dX3_nextsOf_28 (n := 30) rfl ?_
        refine z_ishl dX3_nextsOf_30 (n := 31) rfl (by omega) (by omega) ?_
        refine z_goto dX3_nextsOf_31 (n := 35) (by decide) ?_
        refine z_ior dX3_nextsOf_35 (n := 36) rfl (by first | omega | exact zor_0 _ _ | exact hpw _) (by first | omega | exact zor_0 _ _ | exact hpw _) ?_
        refine z_istore_2 dX3_nextsOf_36 (n := 37) rfl (by decide) (fun w h => by cases h; try rfl) ?_
        refine z_iinc_3 dX3_nextsOf_37 (n := 40) rfl (by decide) (fun w h => by cases h; try rfl) ?_
        refine z_goto dX3_nextsOf_40 (n := 4) (by decide) ?_
        exact h9
  have H0 : ∀ y, zWP G mX3_nextsOf 1 (zpi fun r u => r = nxs (ar 4) (ar 5) s ∧ u = X sz ar) 4 [some (zR 3), some (zI s), some (zI 0), some (zI 0), y] [] (X sz ar) := by
    intro y
    have h9 := H1 (some (zI (gon (ar 4) (ar 5) s 0)))
    refine z_iload_3 dX3_nextsOf_4 (n := 5) rfl ?_
    refine z_iconst dX3_nextsOf_5 (n := 6) rfl ?_
    refine z_icmp_gt dX3_nextsOf_6 (n := 9) (tg := 43) rfl (by decide) (by first | assumption | exact ⟨by omega, by omega⟩ | exact zb_zr _) (by first | assumption | exact ⟨by omega, by omega⟩ | exact zb_zr _) (fun c6 => ?_) (fun c6 => ?_)
    · exfalso; omega
    · refine z_aload_0 dX3_nextsOf_9 (n := 10) rfl ?_
      refine z_iload_1 dX3_nextsOf_10 (n := 11) rfl ?_
      refine z_iload_3 dX3_nextsOf_11 (n := 12) rfl ?_
      refine z_callV2i dX3_nextsOf_12 (n := 15) rfl mv_X3_goesOn lk_X3_71 rfl (zrm (by decide) (by decide)) (Nat.le_of_ble_eq_true rfl) (c_X3_goesOn (by first | assumption | exact ⟨by omega, by omega⟩ | exact zb_zr _) (by omega) hM) (fun r u hp => ?_)
      obtain ⟨rfl, rfl⟩ := hp
      rw [if_pos (by omega)]
      refine z_istore_4 dX3_nextsOf_15 (n := 17) rfl (by decide) (fun w h => by cases h; try rfl) ?_
      refine z_iload_2 dX3_nextsOf_17 (n := 18) rfl ?_
      refine z_aload_0 dX3_nextsOf_18 (n := 19) rfl ?_
      refine z_iload_4 dX3_nextsOf_19 (n := 21) rfl ?_
      refine z_callV1i dX3_nextsOf_21 (n := 24) rfl mv_X3_has lk_X3_61 rfl (zrm (by decide) (by decide)) (Nat.le_of_ble_eq_true rfl) (c_X3_has (by first | assumption | exact ⟨by omega, by omega⟩ | exact zb_zr _) (by first | assumption | exact ⟨by omega, by omega⟩ | exact zb_zr _)) (fun r u hp => ?_)
      obtain ⟨rfl, rfl⟩ := hp
      refine z_ifB_eq dX3_nextsOf_24 (n := 27) (tg := 34) rfl (by decide) (fun c24 => ?_) (fun c24 => ?_)
      · rw [show bitS (gon (ar 4) (ar 5) s 0) = 0 from if_neg (by omega)] at h9
        refine z_iconst dX3_nextsOf_34 (n := 35) rfl ?_
        refine z_ior dX3_nextsOf_35 (n := 36) rfl (by first | omega | exact zor_0 _ _ | exact hpw _) (by first | omega | exact zor_0 _ _ | exact hpw _) ?_
        refine z_istore_2 dX3_nextsOf_36 (n := 37) rfl (by decide) (fun w h => by cases h; try rfl) ?_
        refine z_iinc_3 dX3_nextsOf_37 (n := 40) rfl (by decide) (fun w h => by cases h; try rfl) ?_
        refine z_goto dX3_nextsOf_40 (n := 4) (by decide) ?_
        exact h9
      · rw [show bitS (gon (ar 4) (ar 5) s 0) = 1 * 2 ^ (gon (ar 4) (ar 5) s 0).toNat by unfold bitS; rw [if_pos c24.1, Int.one_mul]] at h9
        refine z_iconst dX3_nextsOf_27 (n := 28) rfl ?_
        refine z_iload_4 dX3_nextsOf_28 (n := 30) rfl ?_
        refine z_ishl dX3_nextsOf_30 (n := 31) rfl (by omega) (by omega) ?_
        refine z_goto dX3_nextsOf_31 (n := 35) (by decide) ?_
        refine z_ior dX3_nextsOf_35 (n := 36) rfl (by first | omega | exact zor_0 _ _ | exact hpw _) (by first | omega | exact zor_0 _ _ | exact hpw _) ?_
        refine z_istore_2 dX3_nextsOf_36 (n := 37) rfl (by decide) (fun w h => by cases h; try rfl) ?_
        refine z_iinc_3 dX3_nextsOf_37 (n := 40) rfl (by decide) (fun w h => by cases h; try rfl) ?_
        refine z_goto dX3_nextsOf_40 (n := 4) (by decide) ?_
        exact h9
  refine z_iconst dX3_nextsOf_0 (n := 1) rfl ?_
  refine z_istore_2 dX3_nextsOf_1 (n := 2) rfl (by decide) (fun w h => by cases h; try rfl) ?_
  refine z_iconst dX3_nextsOf_2 (n := 3) rfl ?_
  refine z_istore_3 dX3_nextsOf_3 (n := 4) rfl (by decide) (fun w h => by cases h; try rfl) ?_
  exact H0 _
set_option maxHeartbeats 4000000 in
theorem li_X3_reachOf {G : zG} {sz : zSz} {ar : zAr} {s R i : Int} {P : Option zV → zS → Prop} (hM : MOK (sz 3 4) (ar 4) (ar 5)) (hR0 : 0 ≤ R) (hR1 : R < 2 ^ 6) (hi0 : 0 ≤ i) (hi1 : i < 6)
    (K : zWP G mX3_reachOf 2 P 51 [some (zR 3), some (zI s), some (zI (rIn (ar 4) (ar 5) (sz 3 4).toNat R)), some (zI i), some (zI (sz 3 4))] [] (X sz ar)) :
    ∀ (m o : Nat), o + m = (sz 3 4).toNat → zWP G mX3_reachOf 2 P 17 [some (zR 3), some (zI s), some (zI (rIn (ar 4) (ar 5) o R)), some (zI i), some (zI o)] [] (X sz ar) := by
  have hn := hM.1
  have hn6 := hM.2.1
  intro m
  induction m with
  | zero =>
    intro o ho
    have eo : o = (sz 3 4).toNat := by omega
    subst eo
    rw [Int.toNat_of_nonneg hn]
    refine z_iload_4 dX3_reachOf_17 (n := 19) rfl ?_
    refine z_aload_0 dX3_reachOf_19 (n := 20) rfl ?_
    refine z_get dX3_reachOf_20 (n := 23) rfl rfl fd_X3_24 rfl ?_
    refine z_icmp_ge dX3_reachOf_23 (n := 26) (tg := 51) rfl (by decide) (by first | assumption | exact ⟨by omega, by omega⟩ | exact zb_zr _) (by first | assumption | exact ⟨by omega, by omega⟩ | exact zb_zr _) (fun c23 => ?_) (fun c23 => ?_)
    · exact K
    · exfalso; omega
  | succ m ih =>
    intro o ho
    have hr := rIn_r hM o R (by omega) hR0 hR1
    have hx := nxs_r hM (s := o) (by omega) (by omega)
    have hd : 0 ≤ rIn (ar 4) (ar 5) o R / 2 ^ o := Int.ediv_nonneg hr.1 (Int.le_of_lt (p2_pos o))
    have h9 := ih (o + 1) (by omega)
    rw [show ((o + 1 : Nat) : Int) = (o : Int) + 1 by omega] at h9
    refine z_iload_4 dX3_reachOf_17 (n := 19) rfl ?_
    refine z_aload_0 dX3_reachOf_19 (n := 20) rfl ?_
    refine z_get dX3_reachOf_20 (n := 23) rfl rfl fd_X3_24 rfl ?_
    refine z_icmp_ge dX3_reachOf_23 (n := 26) (tg := 51) rfl (by decide) (by first | assumption | exact ⟨by omega, by omega⟩ | exact zb_zr _) (by first | assumption | exact ⟨by omega, by omega⟩ | exact zb_zr _) (fun c23 => ?_) (fun c23 => ?_)
    · exfalso; omega
    · refine z_iload_2 dX3_reachOf_26 (n := 27) rfl ?_
      refine z_iload_4 dX3_reachOf_27 (n := 29) rfl ?_
      refine z_ishr dX3_reachOf_29 (n := 30) rfl (by first | assumption | exact ⟨by omega, by omega⟩ | exact zb_zr _) (by first | assumption | omega | exact hd) (by first | assumption | omega | exact hd) ?_
      refine z_iconst dX3_reachOf_30 (n := 31) rfl ?_
      refine z_iand1 dX3_reachOf_31 (n := 32) rfl (by first | assumption | omega | exact hd) ?_
      refine z_iconst dX3_reachOf_32 (n := 33) rfl ?_
      refine z_icmp_ne dX3_reachOf_33 (n := 36) (tg := 45) rfl (by decide) (by first | assumption | exact ⟨by omega, by omega⟩ | exact zb_zr _) (by first | assumption | exact ⟨by omega, by omega⟩ | exact zb_zr _) (fun c33 => ?_) (fun c33 => ?_)
      · rw [show rIn (ar 4) (ar 5) (o + 1) R = rIn (ar 4) (ar 5) o R from if_neg c33] at h9
        refine z_iinc_4 dX3_reachOf_45 (n := 48) rfl (by decide) (fun w h => by cases h; try rfl) ?_
        refine z_goto dX3_reachOf_48 (n := 17) (by decide) ?_
        exact h9
      · rw [show rIn (ar 4) (ar 5) (o + 1) R = zor (rIn (ar 4) (ar 5) o R) (nxs (ar 4) (ar 5) o) from if_pos c33] at h9
        refine z_iload_2 dX3_reachOf_36 (n := 37) rfl ?_
        refine z_aload_0 dX3_reachOf_37 (n := 38) rfl ?_
        refine z_iload_4 dX3_reachOf_38 (n := 40) rfl ?_
        refine z_callV1i dX3_reachOf_40 (n := 43) rfl mv_X3_nextsOf lk_X3_68 rfl (zrm (by decide) (by decide)) (Nat.le_of_ble_eq_true rfl) (c_X3_nextsOf (by first | assumption | omega | exact hd) (by first | assumption | omega | exact hd) hM) (fun r u hp => ?_)
        obtain ⟨rfl, rfl⟩ := hp
        refine z_ior dX3_reachOf_43 (n := 44) rfl (by omega) (by omega) ?_
        refine z_istore_2 dX3_reachOf_44 (n := 45) rfl (by decide) (fun w h => by cases h; try rfl) ?_
        refine z_iinc_4 dX3_reachOf_45 (n := 48) rfl (by decide) (fun w h => by cases h; try rfl) ?_
        refine z_goto dX3_reachOf_48 (n := 17) (by decide) ?_
        exact h9
set_option maxHeartbeats 4000000 in
theorem c_X3_reachOf {G : zG} {sz : zSz} {ar : zAr} {s : Int} (h0 : 0 ≤ s) (h1 : s < sz 3 4) (hM : MOK (sz 3 4) (ar 4) (ar 5))  : zSem G mX3_reachOf 2 [zR 3, zI s] (X sz ar) (zpi fun r u => r = rch (ar 4) (ar 5) (sz 3 4) s ∧ u = X sz ar) := by
  refine z_enter (L' := [some (zR 3), some (zI s), none, none, none]) (by decide +kernel) (Nat.le_of_ble_eq_true rfl) ⟨3, rfl⟩ ?_
  have hn := hM.1
  have hn6 := hM.2.1
  have hx := nxs_r hM h0 h1
  have HO : ∀ (m i : Nat), i + m = 6 → ∀ y, zWP G mX3_reachOf 2 (zpi fun r u => r = rch (ar 4) (ar 5) (sz 3 4) s ∧ u = X sz ar) 8 [some (zR 3), some (zI s), some (zI (rOut (ar 4) (ar 5) (sz 3 4).toNat i (nxs (ar 4) (ar 5) s))), some (zI i), y] [] (X sz ar) := by
    intro m
    induction m with
    | zero =>
      intro i hi y
      have ei : i = 6 := by omega
      subst ei
      refine z_iload_3 dX3_reachOf_8 (n := 9) rfl ?_
      refine z_bipush dX3_reachOf_9 (n := 11) rfl (by decide) ?_
      refine z_icmp_ge dX3_reachOf_11 (n := 14) (tg := 57) rfl (by decide) (by first | assumption | exact ⟨by omega, by omega⟩ | exact zb_zr _) (by first | assumption | exact ⟨by omega, by omega⟩ | exact zb_zr _) (fun c11 => ?_) (fun c11 => ?_)
      · refine z_iload_2 dX3_reachOf_57 (n := 58) rfl ?_
        refine z_ret_i dX3_reachOf_58 rfl ?_
        exact ⟨rfl, rfl⟩
      · exfalso; omega
    | succ m ih =>
      intro i hi y
      have hr := rOut_r hM i _ hx.1 hx.2
      have h9 := ih (i + 1) (by omega)
      rw [show ((i + 1 : Nat) : Int) = (i : Int) + 1 by omega] at h9
      refine z_iload_3 dX3_reachOf_8 (n := 9) rfl ?_
      refine z_bipush dX3_reachOf_9 (n := 11) rfl (by decide) ?_
      refine z_icmp_ge dX3_reachOf_11 (n := 14) (tg := 57) rfl (by decide) (by first | assumption | exact ⟨by omega, by omega⟩ | exact zb_zr _) (by first | assumption | exact ⟨by omega, by omega⟩ | exact zb_zr _) (fun c11 => ?_) (fun c11 => ?_)
      · exfalso; omega
      · refine z_iconst dX3_reachOf_14 (n := 15) rfl ?_
        refine z_istore_4 dX3_reachOf_15 (n := 17) rfl (by decide) (fun w h => by cases h; try rfl) ?_
        refine li_X3_reachOf hM hr.1 hr.2 (by omega) (by omega) ?_ (sz 3 4).toNat 0 (by omega)
        refine z_iinc_3 dX3_reachOf_51 (n := 54) rfl (by decide) (fun w h => by cases h; try rfl) ?_
        refine z_goto dX3_reachOf_54 (n := 8) (by decide) ?_
        exact h9 _
  refine z_aload_0 dX3_reachOf_0 (n := 1) rfl ?_
  refine z_iload_1 dX3_reachOf_1 (n := 2) rfl ?_
  refine z_callV1i dX3_reachOf_2 (n := 5) rfl mv_X3_nextsOf lk_X3_68 rfl (zrm (by decide) (by decide)) (Nat.le_of_ble_eq_true rfl) (c_X3_nextsOf (by omega) (by omega) hM) (fun r u hp => ?_)
  obtain ⟨rfl, rfl⟩ := hp
  refine z_istore_2 dX3_reachOf_5 (n := 6) rfl (by decide) (fun w h => by cases h; try rfl) ?_
  refine z_iconst dX3_reachOf_6 (n := 7) rfl ?_
  refine z_istore_3 dX3_reachOf_7 (n := 8) rfl (by decide) (fun w h => by cases h; try rfl) ?_
  exact HO 6 0 rfl none
set_option maxHeartbeats 4000000 in
theorem c_X3_isInCore {G : zG} {sz : zSz} {ar : zAr} {s : Int} (h0 : 0 ≤ s) (h1 : s < sz 3 4) (hM : MOK (sz 3 4) (ar 4) (ar 5))  : zSem G mX3_isInCore 3 [zR 3, zI s] (X sz ar) (zpi fun r u => r = zb (inC (ar 4) (ar 5) (sz 3 4) s) ∧ u = X sz ar) := by
  refine z_enter (L' := [some (zR 3), some (zI s)]) (by decide +kernel) (Nat.le_of_ble_eq_true rfl) ⟨0, rfl⟩ ?_
  have hn := hM.1
  have hn6 := hM.2.1
  have hr := rch_r hM h0 h1
  have hd : 0 ≤ rch (ar 4) (ar 5) (sz 3 4) s / 2 ^ s.toNat := Int.ediv_nonneg hr.1 (Int.le_of_lt (p2_pos _))
  refine z_aload_0 dX3_isInCore_0 (n := 1) rfl ?_
  refine z_iload_1 dX3_isInCore_1 (n := 2) rfl ?_
  refine z_callV1i dX3_isInCore_2 (n := 5) rfl mv_X3_has lk_X3_61 rfl (zrm (by decide) (by decide)) (Nat.le_of_ble_eq_true rfl) (c_X3_has (by first | assumption | exact ⟨by omega, by omega⟩ | exact zb_zr _) (by first | assumption | exact ⟨by omega, by omega⟩ | exact zb_zr _)) (fun r u hp => ?_)
  obtain ⟨rfl, rfl⟩ := hp
  refine z_ifB_eq dX3_isInCore_5 (n := 8) (tg := 25) rfl (by decide) (fun c5 => ?_) (fun c5 => ?_)
  · exfalso; omega
  · refine z_aload_0 dX3_isInCore_8 (n := 9) rfl ?_
    refine z_iload_1 dX3_isInCore_9 (n := 10) rfl ?_
    refine z_callV1i dX3_isInCore_10 (n := 13) rfl mv_X3_reachOf lk_X3_74 rfl (zrm (by decide) (by decide)) (Nat.le_of_ble_eq_true rfl) (c_X3_reachOf (by first | assumption | omega) (by first | assumption | omega) hM) (fun r u hp => ?_)
    obtain ⟨rfl, rfl⟩ := hp
    refine z_iload_1 dX3_isInCore_13 (n := 14) rfl ?_
    refine z_ishr dX3_isInCore_14 (n := 15) rfl (by first | assumption | exact ⟨by omega, by omega⟩ | exact zb_zr _) (by first | assumption | omega) (by first | assumption | omega) ?_
    refine z_iconst dX3_isInCore_15 (n := 16) rfl ?_
    refine z_iand1 dX3_isInCore_16 (n := 17) rfl (by first | assumption | omega) ?_
    refine z_iconst dX3_isInCore_17 (n := 18) rfl ?_
    refine z_icmp_ne dX3_isInCore_18 (n := 21) (tg := 25) rfl (by decide) (by first | assumption | exact ⟨by omega, by omega⟩ | exact zb_zr _) (by first | assumption | exact ⟨by omega, by omega⟩ | exact zb_zr _) (fun c18 => ?_) (fun c18 => ?_)
    · refine z_iconst dX3_isInCore_25 (n := 26) rfl ?_
      refine z_ret_z dX3_isInCore_26 rfl (by first | exact Or.inl rfl | exact Or.inr rfl | exact zb_or _) ?_
      first | exact ⟨(zb_t (by assumption)).symm, rfl⟩ | exact ⟨(zb_f (by assumption)).symm, rfl⟩
    · refine z_iconst dX3_isInCore_21 (n := 22) rfl ?_
      refine z_goto dX3_isInCore_22 (n := 26) (by decide) ?_
      refine z_ret_z dX3_isInCore_26 rfl (by first | exact Or.inl rfl | exact Or.inr rfl | exact zb_or _) ?_
      first | exact ⟨(zb_t (by assumption)).symm, rfl⟩ | exact ⟨(zb_f (by assumption)).symm, rfl⟩
set_option maxHeartbeats 4000000 in
theorem c_X3_inCore {G : zG} {sz : zSz} {ar : zAr} (hM : MOK (sz 3 4) (ar 4) (ar 5))  : zSem G mX3_inCore 4 [zR 3] (X sz ar) (zpi fun r u => r = cnt (inC (ar 4) (ar 5) (sz 3 4)) (sz 3 4).toNat ∧ u = X sz ar) := by
  refine z_enter (L' := [some (zR 3), none, none]) (by decide +kernel) (Nat.le_of_ble_eq_true rfl) ⟨2, rfl⟩ ?_
  have hn := hM.1
  have hn6 := hM.2.1
  have HO : ∀ (m i : Nat), i + m = (sz 3 4).toNat → zWP G mX3_inCore 4 (zpi fun r u => r = cnt (inC (ar 4) (ar 5) (sz 3 4)) (sz 3 4).toNat ∧ u = X sz ar) 4 [some (zR 3), some (zI (cnt (inC (ar 4) (ar 5) (sz 3 4)) i)), some (zI i)] [] (X sz ar) := by
    intro m
    induction m with
    | zero =>
      intro i hi
      have ei : i = (sz 3 4).toNat := by omega
      subst ei
      refine z_iload_2 dX3_inCore_4 (n := 5) rfl ?_
      refine z_aload_0 dX3_inCore_5 (n := 6) rfl ?_
      refine z_get dX3_inCore_6 (n := 9) rfl rfl fd_X3_24 rfl ?_
      refine z_icmp_ge dX3_inCore_9 (n := 12) (tg := 34) rfl (by decide) (by first | assumption | exact ⟨by omega, by omega⟩ | exact zb_zr _) (by first | assumption | exact ⟨by omega, by omega⟩ | exact zb_zr _) (fun c9 => ?_) (fun c9 => ?_)
      · refine z_iload_1 dX3_inCore_34 (n := 35) rfl ?_
        refine z_ret_i dX3_inCore_35 rfl ?_
        exact ⟨rfl, rfl⟩
      · exfalso; omega
    | succ m ih =>
      intro i hi
      have h9 := ih (i + 1) (by omega)
      rw [show ((i + 1 : Nat) : Int) = (i : Int) + 1 by omega, show cnt (inC (ar 4) (ar 5) (sz 3 4)) (i + 1) = cnt (inC (ar 4) (ar 5) (sz 3 4)) i + zb (inC (ar 4) (ar 5) (sz 3 4) i) from rfl] at h9
      refine z_iload_2 dX3_inCore_4 (n := 5) rfl ?_
      refine z_aload_0 dX3_inCore_5 (n := 6) rfl ?_
      refine z_get dX3_inCore_6 (n := 9) rfl rfl fd_X3_24 rfl ?_
      refine z_icmp_ge dX3_inCore_9 (n := 12) (tg := 34) rfl (by decide) (by first | assumption | exact ⟨by omega, by omega⟩ | exact zb_zr _) (by first | assumption | exact ⟨by omega, by omega⟩ | exact zb_zr _) (fun c9 => ?_) (fun c9 => ?_)
      · exfalso; omega
      · refine z_iload_1 dX3_inCore_12 (n := 13) rfl ?_
        refine z_aload_0 dX3_inCore_13 (n := 14) rfl ?_
        refine z_iload_2 dX3_inCore_14 (n := 15) rfl ?_
        refine z_callV1i dX3_inCore_15 (n := 18) rfl mv_X3_isInCore lk_X3_77 rfl (zrm (by decide) (by decide)) (Nat.le_of_ble_eq_true rfl) (c_X3_isInCore (by omega) (by omega) hM) (fun r u hp => ?_)
        obtain ⟨rfl, rfl⟩ := hp
        refine z_ifB_eq dX3_inCore_18 (n := 21) (tg := 25) rfl (by decide) (fun c18 => ?_) (fun c18 => ?_)
        · rw [zb_f c18] at h9
          refine z_iconst dX3_inCore_25 (n := 26) rfl ?_
          refine z_iadd dX3_inCore_26 (n := 27) rfl ?_
          refine z_istore_1 dX3_inCore_27 (n := 28) rfl (by decide) (fun w h => by cases h; try rfl) ?_
          refine z_iinc_2 dX3_inCore_28 (n := 31) rfl (by decide) (fun w h => by cases h; try rfl) ?_
          refine z_goto dX3_inCore_31 (n := 4) (by decide) ?_
          exact h9
        · rw [zb_t c18] at h9
          refine z_iconst dX3_inCore_21 (n := 22) rfl ?_
          refine z_goto dX3_inCore_22 (n := 26) (by decide) ?_
          refine z_iadd dX3_inCore_26 (n := 27) rfl ?_
          refine z_istore_1 dX3_inCore_27 (n := 28) rfl (by decide) (fun w h => by cases h; try rfl) ?_
          refine z_iinc_2 dX3_inCore_28 (n := 31) rfl (by decide) (fun w h => by cases h; try rfl) ?_
          refine z_goto dX3_inCore_31 (n := 4) (by decide) ?_
          exact h9
  refine z_iconst dX3_inCore_0 (n := 1) rfl ?_
  refine z_istore_1 dX3_inCore_1 (n := 2) rfl (by decide) (fun w h => by cases h; try rfl) ?_
  refine z_iconst dX3_inCore_2 (n := 3) rfl ?_
  refine z_istore_2 dX3_inCore_3 (n := 4) rfl (by decide) (fun w h => by cases h; try rfl) ?_
  exact HO (sz 3 4).toNat 0 (by omega)
