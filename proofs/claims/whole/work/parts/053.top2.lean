/-! TreeActs: words, states -/
/-- a page is a word of n states -/
def isWd (n p : Int) (c : Int → Int) : Prop := p ≤ 8 ∧ ∀ i, 0 ≤ i → i < p → 0 ≤ lco (c i) / 2 ∧ lco (c i) / 2 < n
set_option maxHeartbeats 4000000 in
theorem c_X6_isWordOnPage {G : zG} {sz : zSz} {ar : zAr} (hp0 : 0 ≤ sz 1 1) (hp1 : sz 1 1 ≤ 24) (hc : ∀ i, zr (ar 2 i)) (hn : zr (sz 3 4))  : zSem G mX6_isWordOnPage 2 [zR 0] (X sz ar) (zpi fun r u => r = zb (isWd (sz 3 4) (sz 1 1) (ar 2)) ∧ u = X sz ar) := by
  refine z_enter (L' := [some (zR 0), none]) (by decide +kernel) (Nat.le_of_ble_eq_true rfl) ⟨1, rfl⟩ ?_
  have HO : sz 1 1 ≤ 8 → ∀ (m : Nat) (i : Int), 0 ≤ i → i + m = sz 1 1 → (∀ j, 0 ≤ j → j < i → 0 ≤ lco (ar 2 j) / 2 ∧ lco (ar 2 j) / 2 < sz 3 4) → zWP G mX6_isWordOnPage 2 (zpi fun r u => r = zb (isWd (sz 3 4) (sz 1 1) (ar 2)) ∧ u = X sz ar) 16 [some (zR 0), some (zI i)] [] (X sz ar) := by
    intro h8 m
    induction m with
    | zero =>
      intro i hi0 hi h
      refine z_iload_1 dX6_isWordOnPage_16 (n := 17) rfl ?_
      refine z_aload_0 dX6_isWordOnPage_17 (n := 18) rfl ?_
      refine z_get dX6_isWordOnPage_18 (n := 21) rfl rfl fd_X6_12 rfl ?_
      refine z_callV0i dX6_isWordOnPage_21 (n := 24) rfl mv_X2_size lk_X6_78 rfl (zrm (by decide) (by decide)) (Nat.le_of_ble_eq_true rfl) (c_X2_size) (fun r u hp => ?_)
      obtain ⟨rfl, rfl⟩ := hp
      refine z_icmp_ge dX6_isWordOnPage_24 (n := 27) (tg := 59) rfl (by decide) (by first | assumption | exact ⟨by omega, by omega⟩ | exact zb_zr _) (by first | assumption | exact ⟨by omega, by omega⟩ | exact zb_zr _) (fun c24 => ?_) (fun c24 => ?_)
      · refine z_iconst dX6_isWordOnPage_59 (n := 60) rfl ?_
        refine z_ret_z dX6_isWordOnPage_60 rfl (by first | exact Or.inl rfl | exact Or.inr rfl | exact zb_or _) ?_
        exact ⟨(zb_t ⟨h8, fun j a b => h j a (by omega)⟩).symm, rfl⟩
      · exfalso; omega
    | succ m ih =>
      intro i hi0 hi h
      have hl := lco_r (ar 2 i)
      refine z_iload_1 dX6_isWordOnPage_16 (n := 17) rfl ?_
      refine z_aload_0 dX6_isWordOnPage_17 (n := 18) rfl ?_
      refine z_get dX6_isWordOnPage_18 (n := 21) rfl rfl fd_X6_12 rfl ?_
      refine z_callV0i dX6_isWordOnPage_21 (n := 24) rfl mv_X2_size lk_X6_78 rfl (zrm (by decide) (by decide)) (Nat.le_of_ble_eq_true rfl) (c_X2_size) (fun r u hp => ?_)
      obtain ⟨rfl, rfl⟩ := hp
      refine z_icmp_ge dX6_isWordOnPage_24 (n := 27) (tg := 59) rfl (by decide) (by first | exact hc _ | assumption | exact ⟨by omega, by omega⟩ | exact zb_zr _) (by first | exact hc _ | assumption | exact ⟨by omega, by omega⟩ | exact zb_zr _) (fun c24 => ?_) (fun c24 => ?_)
      · exfalso; omega
      · refine z_aload_0 dX6_isWordOnPage_27 (n := 28) rfl ?_
        refine z_get dX6_isWordOnPage_28 (n := 31) rfl rfl fd_X6_19 rfl ?_
        refine z_aload_0 dX6_isWordOnPage_31 (n := 32) rfl ?_
        refine z_get dX6_isWordOnPage_32 (n := 35) rfl rfl fd_X6_12 rfl ?_
        refine z_iload_1 dX6_isWordOnPage_35 (n := 36) rfl ?_
        refine z_callV1i dX6_isWordOnPage_36 (n := 39) rfl mv_X2_codeAt lk_X6_105 rfl (zrm (by decide) (by decide)) (Nat.le_of_ble_eq_true rfl) (c_X2_codeAt (by first | exact hc _ | assumption | exact ⟨by omega, by omega⟩ | exact zb_zr _) (by omega) (by omega)) (fun r u hp => ?_)
        obtain ⟨rfl, rfl⟩ := hp
        rw [if_pos (by omega)]
        refine z_callS1i dX6_isWordOnPage_39 (n := 42) rfl ms_X6_letterOfCode lk_X6_109 (zrm (by decide) (by decide)) (Nat.le_of_ble_eq_true rfl) (c_X6_letterOfCode (by first | exact hc _ | assumption | exact ⟨by omega, by omega⟩ | exact zb_zr _)) (fun r u hp => ?_)
        obtain ⟨rfl, rfl⟩ := hp
        refine z_callS1i dX6_isWordOnPage_42 (n := 45) rfl ms_X6_stateOf lk_X6_252 (zrm (by decide) (by decide)) (Nat.le_of_ble_eq_true rfl) (c_X6_stateOf (by first | exact hc _ | assumption | exact ⟨by omega, by omega⟩ | exact zb_zr _)) (fun r u hp => ?_)
        obtain ⟨rfl, rfl⟩ := hp
        refine z_callV1i dX6_isWordOnPage_45 (n := 48) rfl mv_X3_has lk_X6_116 rfl (zrm (by decide) (by decide)) (Nat.le_of_ble_eq_true rfl) (c_X3_has (by first | exact hc _ | assumption | exact ⟨by omega, by omega⟩ | exact zb_zr _) (by first | exact hc _ | assumption | exact ⟨by omega, by omega⟩ | exact zb_zr _)) (fun r u hp => ?_)
        obtain ⟨rfl, rfl⟩ := hp
        refine z_ifB_ne dX6_isWordOnPage_48 (n := 51) (tg := 53) rfl (by decide) (fun c48 => ?_) (fun c48 => ?_)
        · refine z_iinc_1 dX6_isWordOnPage_53 (n := 56) rfl (by decide) (fun w h => by cases h; try rfl) ?_
          refine z_goto dX6_isWordOnPage_56 (n := 16) (by decide) ?_
          refine ih (i + 1) (by omega) (by omega) (fun j a b => ?_)
          by_cases e : j = i
          · rw [e]; exact c48
          · exact h j a (by omega)
        · refine z_iconst dX6_isWordOnPage_51 (n := 52) rfl ?_
          refine z_ret_z dX6_isWordOnPage_52 rfl (by first | exact Or.inl rfl | exact Or.inr rfl | exact zb_or _) ?_
          exact ⟨(zb_f (fun z => c48 (z.2 i hi0 (by omega)))).symm, rfl⟩
  refine z_aload_0 dX6_isWordOnPage_0 (n := 1) rfl ?_
  refine z_get dX6_isWordOnPage_1 (n := 4) rfl rfl fd_X6_12 rfl ?_
  refine z_callV0i dX6_isWordOnPage_4 (n := 7) rfl mv_X2_size lk_X6_78 rfl (zrm (by decide) (by decide)) (Nat.le_of_ble_eq_true rfl) (c_X2_size) (fun r u hp => ?_)
  obtain ⟨rfl, rfl⟩ := hp
  refine z_bipush dX6_isWordOnPage_7 (n := 9) rfl (by decide) ?_
  refine z_icmp_le dX6_isWordOnPage_9 (n := 12) (tg := 14) rfl (by decide) (by first | assumption | exact ⟨by omega, by omega⟩ | exact zb_zr _) (by first | assumption | exact ⟨by omega, by omega⟩ | exact zb_zr _) (fun c9 => ?_) (fun c9 => ?_)
  · refine z_iconst dX6_isWordOnPage_14 (n := 15) rfl ?_
    refine z_istore_1 dX6_isWordOnPage_15 (n := 16) rfl (by decide) (fun w h => by cases h; try rfl) ?_
    exact HO (by omega) (sz 1 1).toNat 0 (by omega) (by omega) (fun j a b => by omega)
  · refine z_iconst dX6_isWordOnPage_12 (n := 13) rfl ?_
    refine z_ret_z dX6_isWordOnPage_13 rfl (by first | exact Or.inl rfl | exact Or.inr rfl | exact zb_or _) ?_
    exact ⟨(zb_f (fun z => by have := z.1; omega)).symm, rfl⟩
/-- the letters of a page, reduced -/
def rdW (c : Int → Int) : Nat → List Int
  | 0 => []
  | i + 1 => red (rdW c i) (lco (c i))
theorem rdW_len (c : Int → Int) : ∀ i, (rdW c i).length ≤ i := by
  intro i
  induction i with
  | zero => exact Nat.le_refl 0
  | succ i ih =>
    have := red_len (rdW c i) (lco (c i))
    unfold rdW
    omega
theorem rdW_Lt {n p : Int} {c : Int → Int} (h : isWd n p c) : ∀ i : Nat, (i : Int) ≤ p → Lt n (rdW c i) := by
  intro i
  induction i with
  | zero => intro _; exact Lt.nil
  | succ i ih =>
    intro hi
    have := h.2 i (by omega) (by omega)
    exact (ih (by omega)).rd (by omega) (by omega)
set_option maxHeartbeats 4000000 in
theorem lo_X6_word {G : zG} {sz : zSz} {ar : zAr} {k : Nat} {w : Int} (hk : isL k) (hkc : cap k = 16) (hn6 : sz 3 4 ≤ 6) (hp0 : 0 ≤ sz 1 1) (hc : ∀ i, zr (ar 2 i)) (hW : isWd (sz 3 4) (sz 1 1) (ar 2)) :
    ∀ (m i : Nat) (sz' : zSz) (ar' : zAr), (i : Int) + m = sz 1 1 → LR (sz' k 1) (ar' (k + 1)) (rdW (ar 2) i) → Fr k sz ar sz' ar' →
    zWP G mX6_word 3 (zpi fun r u => r = (rdW (ar 2) (sz 1 1).toNat).length ∧ ∃ sz1 ar1, u = X (zz sz1 1 1 0) ar1 ∧ LR (sz1 k 1) (ar1 (k + 1)) (rdW (ar 2) (sz 1 1).toNat) ∧ Fr k sz ar sz1 ar1) 34 [some (zR 0), some (zI w), some (zR k), some (zI i)] [] (X sz' ar') := by
  have hp8 := hW.1
  have hk1 : (1 : Nat) ≠ k ∧ (2 : Nat) ≠ k + 1 ∧ k ≠ 1 := by unfold isL at hk; omega
  intro m
  induction m with
  | zero =>
    intro i sz' ar' hi hL hF
    have e1 := hF.1 1 hk1.1
    have ei : i = (sz 1 1).toNat := by omega
    subst ei
    have hl := hL.1
    refine z_iload_3 dX6_word_34 (n := 35) rfl ?_
    refine z_aload_0 dX6_word_35 (n := 36) rfl ?_
    refine z_get dX6_word_36 (n := 39) rfl rfl fd_X6_12 rfl ?_
    refine z_callV0i dX6_word_39 (n := 42) rfl mv_X2_size lk_X6_78 rfl (zrm (by decide) (by decide)) (Nat.le_of_ble_eq_true rfl) (c_X2_size) (fun r u hp => ?_)
    obtain ⟨rfl, rfl⟩ := hp
    rw [e1]
    refine z_icmp_ge dX6_word_42 (n := 45) (tg := 66) rfl (by decide) (by first | assumption | exact ⟨by omega, by omega⟩ | exact zb_zr _) (by first | assumption | exact ⟨by omega, by omega⟩ | exact zb_zr _) (fun c42 => ?_) (fun c42 => ?_)
    · refine z_aload_0 dX6_word_66 (n := 67) rfl ?_
      refine z_get dX6_word_67 (n := 70) rfl rfl fd_X6_12 rfl ?_
      refine z_callV0v dX6_word_70 (n := 73) rfl mv_X2_clear lk_X6_82 rfl (zrm (by decide) (by decide)) (Nat.le_of_ble_eq_true rfl) (c_X2_clear) (fun u hp => ?_)
      subst hp
      refine z_aload_2 dX6_word_73 (n := 74) rfl ?_
      refine z_callV0i dX6_word_74 (n := 77) rfl mv_X1_size lk_X6_115 (XL1 hk) (zrm (by decide) (by decide)) (Nat.le_of_ble_eq_true rfl) (c_X1_size hk) (fun r u hp => ?_)
      obtain ⟨rfl, rfl⟩ := hp
      rw [zz_ne hk1.2.2]
      refine z_ret_i dX6_word_77 rfl ?_
      exact ⟨hl, sz', ar', rfl, hL, hF⟩
    · exfalso; omega
  | succ m ih =>
    intro i sz' ar' hi hL hF
    have e1 := hF.1 1 hk1.1
    have e2 := hF.2 2 hk1.2.1
    have hll := rdW_len (ar 2) i
    have hlt := rdW_Lt hW i (by omega)
    have hlc := hW.2 i (by omega) (by omega)
    have hlr := lco_r (ar 2 i)
    refine z_iload_3 dX6_word_34 (n := 35) rfl ?_
    refine z_aload_0 dX6_word_35 (n := 36) rfl ?_
    refine z_get dX6_word_36 (n := 39) rfl rfl fd_X6_12 rfl ?_
    refine z_callV0i dX6_word_39 (n := 42) rfl mv_X2_size lk_X6_78 rfl (zrm (by decide) (by decide)) (Nat.le_of_ble_eq_true rfl) (c_X2_size) (fun r u hp => ?_)
    obtain ⟨rfl, rfl⟩ := hp
    rw [e1]
    refine z_icmp_ge dX6_word_42 (n := 45) (tg := 66) rfl (by decide) (by first | exact hc _ | assumption | exact ⟨by omega, by omega⟩ | exact zb_zr _) (by first | exact hc _ | assumption | exact ⟨by omega, by omega⟩ | exact zb_zr _) (fun c42 => ?_) (fun c42 => ?_)
    · exfalso; omega
    · refine z_aload_2 dX6_word_45 (n := 46) rfl ?_
      refine z_aload_0 dX6_word_46 (n := 47) rfl ?_
      refine z_get dX6_word_47 (n := 50) rfl rfl fd_X6_12 rfl ?_
      refine z_iload_3 dX6_word_50 (n := 51) rfl ?_
      refine z_callV1i dX6_word_51 (n := 54) rfl mv_X2_codeAt lk_X6_105 rfl (zrm (by decide) (by decide)) (Nat.le_of_ble_eq_true rfl) (c_X2_codeAt (by first | exact hc _ | assumption | exact ⟨by omega, by omega⟩ | exact zb_zr _) (by rw [e1]; omega) (by rw [e1]; omega)) (fun r u hp => ?_)
      obtain ⟨rfl, rfl⟩ := hp
      rw [if_pos (by rw [e1]; omega), e2]
      refine z_callS1i dX6_word_54 (n := 57) rfl ms_X6_letterOfCode lk_X6_109 (zrm (by decide) (by decide)) (Nat.le_of_ble_eq_true rfl) (c_X6_letterOfCode (by first | exact hc _ | assumption | exact ⟨by omega, by omega⟩ | exact zb_zr _)) (fun r u hp => ?_)
      obtain ⟨rfl, rfl⟩ := hp
      refine z_callV1v dX6_word_57 (n := 60) rfl mv_X1_addReduced lk_X6_112 (XL1 hk) (zrm (by decide) (by decide)) (Nat.le_of_ble_eq_true rfl) (c_X1_addReduced hk (by omega) (by omega) hL (hlt.Ls hn6) (by omega)) (fun u hp => ?_)
      obtain ⟨sz2, ar2, rfl, hL2, hF2⟩ := hp
      refine z_iinc_3 dX6_word_60 (n := 63) rfl (by decide) (fun w h => by cases h; try rfl) ?_
      refine z_goto dX6_word_63 (n := 34) (by decide) ?_
      have h9 := ih (i + 1) sz2 ar2 (by omega) hL2 (hF.tr hF2)
      rw [show ((i + 1 : Nat) : Int) = (i : Int) + 1 by omega] at h9
      exact h9
set_option maxHeartbeats 4000000 in
theorem c_X6_word {G : zG} {sz : zSz} {ar : zAr} {ws : Int → List Int} {w : Int} (hw : zr w) (hC : CK ws sz ar)  : zSem G mX6_word 3 [zR 0, zI w] (X sz ar) (zpi fun r u => (¬ (0 ≤ w ∧ w < 3 ∧ 0 < sz 3 4) ∧ r = -101 ∧ u = X sz ar) ∨ ((0 ≤ w ∧ w < 3 ∧ 0 < sz 3 4) ∧ ¬ isWd (sz 3 4) (sz 1 1) (ar 2) ∧ r = -103 ∧ u = X sz ar) ∨ ((0 ≤ w ∧ w < 3 ∧ 0 < sz 3 4) ∧ isWd (sz 3 4) (sz 1 1) (ar 2) ∧ r = (rdW (ar 2) (sz 1 1).toNat).length ∧ ∃ sz1 ar1, u = X (zz sz1 1 1 0) ar1 ∧ LR (sz1 (14 + 2 * w).toNat 1) (ar1 ((14 + 2 * w).toNat + 1)) (rdW (ar 2) (sz 1 1).toNat) ∧ Fr (14 + 2 * w).toNat sz ar sz1 ar1)) := by
  refine z_enter (L' := [some (zR 0), some (zI w), none, none]) (by decide +kernel) (Nat.le_of_ble_eq_true rfl) ⟨2, rfl⟩ ?_
  obtain ⟨hM, ⟨hp0, hp1, hc⟩, hW, ⟨hs0, hs1, hso⟩, hmr⟩ := hC
  have hn := hM.1
  have hn6 := hM.2.1
  refine z_aload_0 dX6_word_0 (n := 1) rfl ?_
  refine z_iload_1 dX6_word_1 (n := 2) rfl ?_
  refine z_callV1i dX6_word_2 (n := 5) rfl mv_X6_isActing lk_X6_99 rfl (zrm (by decide) (by decide)) (Nat.le_of_ble_eq_true rfl) (c_X6_isActing (by first | assumption | exact ⟨by omega, by omega⟩ | exact zb_zr _) (by first | assumption | exact ⟨by omega, by omega⟩ | exact zb_zr _)) (fun r u hp => ?_)
  obtain ⟨rfl, rfl⟩ := hp
  refine z_ifB_ne dX6_word_5 (n := 8) (tg := 11) rfl (by decide) (fun c5 => ?_) (fun c5 => ?_)
  · have hk := isLw c5.1 c5.2.1
    refine z_aload_0 dX6_word_11 (n := 12) rfl ?_
    refine z_callV0i dX6_word_12 (n := 15) rfl mv_X6_isWordOnPage lk_X6_102 rfl (zrm (by decide) (by decide)) (Nat.le_of_ble_eq_true rfl) (c_X6_isWordOnPage hp0 hp1 hc (by first | assumption | exact ⟨by omega, by omega⟩ | exact zb_zr _)) (fun r u hp => ?_)
    obtain ⟨rfl, rfl⟩ := hp
    refine z_ifB_ne dX6_word_15 (n := 18) (tg := 21) rfl (by decide) (fun c15 => ?_) (fun c15 => ?_)
    · refine z_aload_0 dX6_word_21 (n := 22) rfl ?_
      refine z_get dX6_word_22 (n := 25) rfl rfl fd_X6_28 rfl ?_
      refine z_iload_1 dX6_word_25 (n := 26) rfl ?_
      refine z_aald dX6_word_26 (n := 27) rfl rfl (by omega) (by omega) (by decide) ?_
      show zW G _ _ _ 27 _ [zR (14 + 2 * w).toNat] _
      refine z_astore_2 dX6_word_27 (n := 28) rfl (by decide) (fun w h => by cases h; try rfl) ?_
      refine z_aload_2 dX6_word_28 (n := 29) rfl ?_
      refine z_callV0v dX6_word_29 (n := 32) rfl mv_X1_clear lk_X6_96 (XL1 hk) (zrm (by decide) (by decide)) (Nat.le_of_ble_eq_true rfl) (c_X1_clear hk) (fun u hp => ?_)
      subst hp
      refine z_iconst dX6_word_32 (n := 33) rfl ?_
      refine z_istore_3 dX6_word_33 (n := 34) rfl (by decide) (fun w h => by cases h; try rfl) ?_
      have h9 := lo_X6_word (G := G) (w := w) hk (capw c5.1 c5.2.1) hn6 hp0 hc c15 (sz 1 1).toNat 0 (zz sz (14 + 2 * w).toNat 1 0) ar (by omega) (by rw [zz_eq]; exact LR.nil) ⟨fun j hj => zz_ne hj, fun j hj => rfl⟩
      refine z_wk h9 (fun x v hv => ?_)
      exact Or.inr (Or.inr ⟨c5, c15, hv⟩)
    · refine z_bipush dX6_word_18 (n := 20) rfl (by decide) ?_
      refine z_ret_i dX6_word_20 rfl ?_
      first | exact Or.inl ⟨c5, rfl, rfl⟩ | exact Or.inr (Or.inl ⟨c5, c15, rfl, rfl⟩)
  · refine z_bipush dX6_word_8 (n := 10) rfl (by decide) ?_
    refine z_ret_i dX6_word_10 rfl ?_
    first | exact Or.inl ⟨c5, rfl, rfl⟩ | exact Or.inr (Or.inl ⟨c5, c15, rfl, rfl⟩)
set_option maxHeartbeats 4000000 in
theorem c_X6_as {G : zG} {sz : zSz} {ar : zAr} {s k : Int} (hs : zr s) (hk : zr k) (hM : MOK (sz 3 4) (ar 4) (ar 5))  : zSem G mX6_as 2 [zR 0, zI s, zI k] (X sz ar) (zpi fun r u => u = X sz ar ∧ r = (if ¬ (0 ≤ s ∧ s < sz 3 4) then -101 else if ¬ (0 ≤ k ∧ k < 5) then -102 else if k = 0 ∨ k = ar 4 s ∨ (k = 1 ∧ ar 4 s = 2) then s else -1)) := by
  refine z_enter (L' := [some (zR 0), some (zI s), some (zI k), none, none]) (by decide +kernel) (Nat.le_of_ble_eq_true rfl) ⟨2, rfl⟩ ?_
  have hn := hM.1
  have hn6 := hM.2.1
  refine z_aload_0 dX6_as_0 (n := 1) rfl ?_
  refine z_get dX6_as_1 (n := 4) rfl rfl fd_X6_19 rfl ?_
  refine z_iload_1 dX6_as_4 (n := 5) rfl ?_
  refine z_callV1i dX6_as_5 (n := 8) rfl mv_X3_has lk_X6_116 rfl (zrm (by decide) (by decide)) (Nat.le_of_ble_eq_true rfl) (c_X3_has (by first | assumption | exact ⟨by omega, by omega⟩ | exact zb_zr _) (by first | assumption | exact ⟨by omega, by omega⟩ | exact zb_zr _)) (fun r u hp => ?_)
  obtain ⟨rfl, rfl⟩ := hp
  refine z_ifB_ne dX6_as_8 (n := 11) (tg := 14) rfl (by decide) (fun c8 => ?_) (fun c8 => ?_)
  · refine z_iload_2 dX6_as_14 (n := 15) rfl ?_
    refine z_callS1i dX6_as_15 (n := 18) rfl ms_X6_isKind lk_X6_141 (zrm (by decide) (by decide)) (Nat.le_of_ble_eq_true rfl) (c_X6_isKind (by first | assumption | exact ⟨by omega, by omega⟩ | exact zb_zr _)) (fun r u hp => ?_)
    obtain ⟨rfl, rfl⟩ := hp
    refine z_ifB_ne dX6_as_18 (n := 21) (tg := 24) rfl (by decide) (fun c18 => ?_) (fun c18 => ?_)
    · refine z_aload_0 dX6_as_24 (n := 25) rfl ?_
      refine z_get dX6_as_25 (n := 28) rfl rfl fd_X6_19 rfl ?_
      refine z_iload_1 dX6_as_28 (n := 29) rfl ?_
      refine z_callV1i dX6_as_29 (n := 32) rfl mv_X3_kindOf lk_X6_119 rfl (zrm (by decide) (by decide)) (Nat.le_of_ble_eq_true rfl) (c_X3_kindOf (by first | assumption | exact ⟨by omega, by omega⟩ | exact zb_zr _) (by omega)) (fun r u hp => ?_)
      obtain ⟨rfl, rfl⟩ := hp
      rw [if_pos c8]
      have hkk := hM.2.2.1 s c8.1 c8.2
      refine z_istore_3 dX6_as_32 (n := 33) rfl (by decide) (fun w h => by cases h; try rfl) ?_
      refine z_iload_3 dX6_as_33 (n := 34) rfl ?_
      refine z_iload_2 dX6_as_34 (n := 35) rfl ?_
      refine z_icmp_eq dX6_as_35 (n := 38) (tg := 52) rfl (by decide) (by first | assumption | exact ⟨by omega, by omega⟩ | exact zb_zr _) (by first | assumption | exact ⟨by omega, by omega⟩ | exact zb_zr _) (fun c35 => ?_) (fun c35 => ?_)
      · refine z_iconst dX6_as_52 (n := 53) rfl ?_
        refine z_goto dX6_as_53 (n := 57) (by decide) ?_
        refine z_istore_4 dX6_as_57 (n := 59) rfl (by decide) (fun w h => by cases h; try rfl) ?_
        refine z_iload_4 dX6_as_59 (n := 61) rfl ?_
        refine z_if_eq dX6_as_61 (n := 64) (tg := 68) rfl (by decide) (by first | assumption | exact ⟨by omega, by omega⟩ | exact zb_zr _) (fun c61 => ?_) (fun c61 => ?_)
        · refine z_iconst dX6_as_68 (n := 69) rfl ?_
          refine z_ret_i dX6_as_69 rfl ?_
          first | (exfalso; omega) | exact ⟨rfl, by rw [if_pos (by omega)]⟩ | exact ⟨rfl, by rw [if_neg (by omega), if_pos (by omega)]⟩ | exact ⟨rfl, by rw [if_neg (by omega), if_neg (by omega), if_pos (by omega)]⟩ | exact ⟨rfl, by rw [if_neg (by omega), if_neg (by omega), if_neg (by omega)]⟩
        · refine z_iload_1 dX6_as_64 (n := 65) rfl ?_
          refine z_goto dX6_as_65 (n := 69) (by decide) ?_
          refine z_ret_i dX6_as_69 rfl ?_
          first | (exfalso; omega) | exact ⟨rfl, by rw [if_pos (by omega)]⟩ | exact ⟨rfl, by rw [if_neg (by omega), if_pos (by omega)]⟩ | exact ⟨rfl, by rw [if_neg (by omega), if_neg (by omega), if_pos (by omega)]⟩ | exact ⟨rfl, by rw [if_neg (by omega), if_neg (by omega), if_neg (by omega)]⟩
      · refine z_iload_2 dX6_as_38 (n := 39) rfl ?_
        refine z_if_eq dX6_as_39 (n := 42) (tg := 52) rfl (by decide) (by first | assumption | exact ⟨by omega, by omega⟩ | exact zb_zr _) (fun c39 => ?_) (fun c39 => ?_)
        · refine z_iconst dX6_as_52 (n := 53) rfl ?_
          refine z_goto dX6_as_53 (n := 57) (by decide) ?_
          refine z_istore_4 dX6_as_57 (n := 59) rfl (by decide) (fun w h => by cases h; try rfl) ?_
          refine z_iload_4 dX6_as_59 (n := 61) rfl ?_
          refine z_if_eq dX6_as_61 (n := 64) (tg := 68) rfl (by decide) (by first | assumption | exact ⟨by omega, by omega⟩ | exact zb_zr _) (fun c61 => ?_) (fun c61 => ?_)
          · refine z_iconst dX6_as_68 (n := 69) rfl ?_
            refine z_ret_i dX6_as_69 rfl ?_
            first | (exfalso; omega) | exact ⟨rfl, by rw [if_pos (by omega)]⟩ | exact ⟨rfl, by rw [if_neg (by omega), if_pos (by omega)]⟩ | exact ⟨rfl, by rw [if_neg (by omega), if_neg (by omega), if_pos (by omega)]⟩ | exact ⟨rfl, by rw [if_neg (by omega), if_neg (by omega), if_neg (by omega)]⟩
          · refine z_iload_1 dX6_as_64 (n := 65) rfl ?_
            refine z_goto dX6_as_65 (n := 69) (by decide) ?_
            refine z_ret_i dX6_as_69 rfl ?_
            first | (exfalso; omega) | exact ⟨rfl, by rw [if_pos (by omega)]⟩ | exact ⟨rfl, by rw [if_neg (by omega), if_pos (by omega)]⟩ | exact ⟨rfl, by rw [if_neg (by omega), if_neg (by omega), if_pos (by omega)]⟩ | exact ⟨rfl, by rw [if_neg (by omega), if_neg (by omega), if_neg (by omega)]⟩
        · refine z_iload_3 dX6_as_42 (n := 43) rfl ?_
          refine z_iconst dX6_as_43 (n := 44) rfl ?_
          refine z_icmp_ne dX6_as_44 (n := 47) (tg := 56) rfl (by decide) (by first | assumption | exact ⟨by omega, by omega⟩ | exact zb_zr _) (by first | assumption | exact ⟨by omega, by omega⟩ | exact zb_zr _) (fun c44 => ?_) (fun c44 => ?_)
          · refine z_iconst dX6_as_56 (n := 57) rfl ?_
            refine z_istore_4 dX6_as_57 (n := 59) rfl (by decide) (fun w h => by cases h; try rfl) ?_
            refine z_iload_4 dX6_as_59 (n := 61) rfl ?_
            refine z_if_eq dX6_as_61 (n := 64) (tg := 68) rfl (by decide) (by first | assumption | exact ⟨by omega, by omega⟩ | exact zb_zr _) (fun c61 => ?_) (fun c61 => ?_)
            · refine z_iconst dX6_as_68 (n := 69) rfl ?_
              refine z_ret_i dX6_as_69 rfl ?_
              first | (exfalso; omega) | exact ⟨rfl, by rw [if_pos (by omega)]⟩ | exact ⟨rfl, by rw [if_neg (by omega), if_pos (by omega)]⟩ | exact ⟨rfl, by rw [if_neg (by omega), if_neg (by omega), if_pos (by omega)]⟩ | exact ⟨rfl, by rw [if_neg (by omega), if_neg (by omega), if_neg (by omega)]⟩
            · refine z_iload_1 dX6_as_64 (n := 65) rfl ?_
              refine z_goto dX6_as_65 (n := 69) (by decide) ?_
              refine z_ret_i dX6_as_69 rfl ?_
              first | (exfalso; omega) | exact ⟨rfl, by rw [if_pos (by omega)]⟩ | exact ⟨rfl, by rw [if_neg (by omega), if_pos (by omega)]⟩ | exact ⟨rfl, by rw [if_neg (by omega), if_neg (by omega), if_pos (by omega)]⟩ | exact ⟨rfl, by rw [if_neg (by omega), if_neg (by omega), if_neg (by omega)]⟩
          · refine z_iload_2 dX6_as_47 (n := 48) rfl ?_
            refine z_iconst dX6_as_48 (n := 49) rfl ?_
            refine z_icmp_ne dX6_as_49 (n := 52) (tg := 56) rfl (by decide) (by first | assumption | exact ⟨by omega, by omega⟩ | exact zb_zr _) (by first | assumption | exact ⟨by omega, by omega⟩ | exact zb_zr _) (fun c49 => ?_) (fun c49 => ?_)
            · refine z_iconst dX6_as_56 (n := 57) rfl ?_
              refine z_istore_4 dX6_as_57 (n := 59) rfl (by decide) (fun w h => by cases h; try rfl) ?_
              refine z_iload_4 dX6_as_59 (n := 61) rfl ?_
              refine z_if_eq dX6_as_61 (n := 64) (tg := 68) rfl (by decide) (by first | assumption | exact ⟨by omega, by omega⟩ | exact zb_zr _) (fun c61 => ?_) (fun c61 => ?_)
              · refine z_iconst dX6_as_68 (n := 69) rfl ?_
                refine z_ret_i dX6_as_69 rfl ?_
                first | (exfalso; omega) | exact ⟨rfl, by rw [if_pos (by omega)]⟩ | exact ⟨rfl, by rw [if_neg (by omega), if_pos (by omega)]⟩ | exact ⟨rfl, by rw [if_neg (by omega), if_neg (by omega), if_pos (by omega)]⟩ | exact ⟨rfl, by rw [if_neg (by omega), if_neg (by omega), if_neg (by omega)]⟩
              · refine z_iload_1 dX6_as_64 (n := 65) rfl ?_
                refine z_goto dX6_as_65 (n := 69) (by decide) ?_
                refine z_ret_i dX6_as_69 rfl ?_
                first | (exfalso; omega) | exact ⟨rfl, by rw [if_pos (by omega)]⟩ | exact ⟨rfl, by rw [if_neg (by omega), if_pos (by omega)]⟩ | exact ⟨rfl, by rw [if_neg (by omega), if_neg (by omega), if_pos (by omega)]⟩ | exact ⟨rfl, by rw [if_neg (by omega), if_neg (by omega), if_neg (by omega)]⟩
            · refine z_iconst dX6_as_52 (n := 53) rfl ?_
              refine z_goto dX6_as_53 (n := 57) (by decide) ?_
              refine z_istore_4 dX6_as_57 (n := 59) rfl (by decide) (fun w h => by cases h; try rfl) ?_
              refine z_iload_4 dX6_as_59 (n := 61) rfl ?_
              refine z_if_eq dX6_as_61 (n := 64) (tg := 68) rfl (by decide) (by first | assumption | exact ⟨by omega, by omega⟩ | exact zb_zr _) (fun c61 => ?_) (fun c61 => ?_)
              · refine z_iconst dX6_as_68 (n := 69) rfl ?_
                refine z_ret_i dX6_as_69 rfl ?_
                first | (exfalso; omega) | exact ⟨rfl, by rw [if_pos (by omega)]⟩ | exact ⟨rfl, by rw [if_neg (by omega), if_pos (by omega)]⟩ | exact ⟨rfl, by rw [if_neg (by omega), if_neg (by omega), if_pos (by omega)]⟩ | exact ⟨rfl, by rw [if_neg (by omega), if_neg (by omega), if_neg (by omega)]⟩
              · refine z_iload_1 dX6_as_64 (n := 65) rfl ?_
                refine z_goto dX6_as_65 (n := 69) (by decide) ?_
                refine z_ret_i dX6_as_69 rfl ?_
                first | (exfalso; omega) | exact ⟨rfl, by rw [if_pos (by omega)]⟩ | exact ⟨rfl, by rw [if_neg (by omega), if_pos (by omega)]⟩ | exact ⟨rfl, by rw [if_neg (by omega), if_neg (by omega), if_pos (by omega)]⟩ | exact ⟨rfl, by rw [if_neg (by omega), if_neg (by omega), if_neg (by omega)]⟩
    · refine z_bipush dX6_as_21 (n := 23) rfl (by decide) ?_
      refine z_ret_i dX6_as_23 rfl ?_
      first | (exfalso; omega) | exact ⟨rfl, by rw [if_pos (by omega)]⟩ | exact ⟨rfl, by rw [if_neg (by omega), if_pos (by omega)]⟩ | exact ⟨rfl, by rw [if_neg (by omega), if_neg (by omega), if_pos (by omega)]⟩ | exact ⟨rfl, by rw [if_neg (by omega), if_neg (by omega), if_neg (by omega)]⟩
  · refine z_bipush dX6_as_11 (n := 13) rfl (by decide) ?_
    refine z_ret_i dX6_as_13 rfl ?_
    first | (exfalso; omega) | exact ⟨rfl, by rw [if_pos (by omega)]⟩ | exact ⟨rfl, by rw [if_neg (by omega), if_pos (by omega)]⟩ | exact ⟨rfl, by rw [if_neg (by omega), if_neg (by omega), if_pos (by omega)]⟩ | exact ⟨rfl, by rw [if_neg (by omega), if_neg (by omega), if_neg (by omega)]⟩
set_option maxHeartbeats 4000000 in
theorem c_X6_sign {G : zG} {sz : zSz} {ar : zAr} {ws : Int → List Int} {w p : Int} (hw : zr w) (hp : zr p) (hC : CK ws sz ar)  : zSem G mX6_sign 2 [zR 0, zI w, zI p] (X sz ar) (zpi fun r u => u = X sz ar ∧ r = (if 0 ≤ w ∧ w < 3 ∧ 0 ≤ p ∧ p < (ws w).length then cdl ((ws w).getD p.toNat 0) else -101)) := by
  refine z_enter (L' := [some (zR 0), some (zI w), some (zI p)]) (by decide +kernel) (Nat.le_of_ble_eq_true rfl) ⟨0, rfl⟩ ?_
  obtain ⟨hM, ⟨hp0, hp1, hc⟩, hW, ⟨hs0, hs1, hso⟩, hmr⟩ := hC
  have hn := hM.1
  have hn6 := hM.2.1
  refine z_iload_1 dX6_sign_0 (n := 1) rfl ?_
  refine z_callS1i dX6_sign_1 (n := 4) rfl ms_X6_isWord lk_X6_144 (zrm (by decide) (by decide)) (Nat.le_of_ble_eq_true rfl) (c_X6_isWord (by first | assumption | exact ⟨by omega, by omega⟩ | exact zb_zr _)) (fun r u hp => ?_)
  obtain ⟨rfl, rfl⟩ := hp
  refine z_ifB_eq dX6_sign_4 (n := 7) (tg := 24) rfl (by decide) (fun c4 => ?_) (fun c4 => ?_)
  · refine z_bipush dX6_sign_24 (n := 26) rfl (by decide) ?_
    refine z_ret_i dX6_sign_26 rfl ?_
    first | exact ⟨rfl, by rw [if_neg (by omega)]⟩ | exact ⟨rfl, by rw [if_pos (by omega), ← hL.1.get (i := p) (by omega) (by omega)]⟩
  · have hk := isLw c4.1 c4.2
    have hL := hW w c4.1 c4.2
    have hl := hL.1.1
    have hcp := capw c4.1 c4.2
    refine z_iload_2 dX6_sign_7 (n := 8) rfl ?_
    refine z_if_lt dX6_sign_8 (n := 11) (tg := 24) rfl (by decide) (by first | assumption | exact ⟨by omega, by omega⟩ | exact zb_zr _) (fun c8 => ?_) (fun c8 => ?_)
    · refine z_bipush dX6_sign_24 (n := 26) rfl (by decide) ?_
      refine z_ret_i dX6_sign_26 rfl ?_
      first | exact ⟨rfl, by rw [if_neg (by omega)]⟩ | exact ⟨rfl, by rw [if_pos (by omega), ← hL.1.get (i := p) (by omega) (by omega)]⟩
    · refine z_iload_2 dX6_sign_11 (n := 12) rfl ?_
      refine z_aload_0 dX6_sign_12 (n := 13) rfl ?_
      refine z_get dX6_sign_13 (n := 16) rfl rfl fd_X6_28 rfl ?_
      refine z_iload_1 dX6_sign_16 (n := 17) rfl ?_
      refine z_aald dX6_sign_17 (n := 18) rfl rfl (by omega) (by omega) (by decide) ?_
      refine z_callV0i dX6_sign_18 (n := 21) rfl mv_X1_size lk_X6_115 (XL1 hk) (zrm (by decide) (by decide)) (Nat.le_of_ble_eq_true rfl) (c_X1_size hk) (fun r u hp => ?_)
      obtain ⟨rfl, rfl⟩ := hp
      refine z_icmp_lt dX6_sign_21 (n := 24) (tg := 27) rfl (by decide) (by first | assumption | exact ⟨by omega, by omega⟩ | exact zb_zr _) (by first | assumption | exact ⟨by omega, by omega⟩ | exact zb_zr _) (fun c21 => ?_) (fun c21 => ?_)
      · refine z_aload_0 dX6_sign_27 (n := 28) rfl ?_
        refine z_get dX6_sign_28 (n := 31) rfl rfl fd_X6_28 rfl ?_
        refine z_iload_1 dX6_sign_31 (n := 32) rfl ?_
        refine z_aald dX6_sign_32 (n := 33) rfl rfl (by omega) (by omega) (by decide) ?_
        refine z_iload_2 dX6_sign_33 (n := 34) rfl ?_
        refine z_callV1i dX6_sign_34 (n := 37) rfl mv_X1_at lk_X6_147 (XL1 hk) (zrm (by decide) (by decide)) (Nat.le_of_ble_eq_true rfl) (c_X1_at hk (by first | assumption | exact ⟨by omega, by omega⟩ | exact zb_zr _) (by omega) (by omega)) (fun r u hp => ?_)
        obtain ⟨rfl, rfl⟩ := hp
        rw [if_pos (by omega)]
        have hy := hL.2.1 _ (hL.1.mem (i := p) (by omega) (by omega))
        refine z_callS1i dX6_sign_37 (n := 40) rfl ms_X6_codeOfLetter lk_X6_150 (zrm (by decide) (by decide)) (Nat.le_of_ble_eq_true rfl) (c_X6_codeOfLetter (by omega) (by omega)) (fun r u hp => ?_)
        obtain ⟨rfl, rfl⟩ := hp
        refine z_ret_i dX6_sign_40 rfl ?_
        first | exact ⟨rfl, by rw [if_neg (by omega)]⟩ | exact ⟨rfl, by rw [if_pos (by omega), ← hL.1.get (i := p) (by omega) (by omega)]⟩
      · refine z_bipush dX6_sign_24 (n := 26) rfl (by decide) ?_
        refine z_ret_i dX6_sign_26 rfl ?_
        first | exact ⟨rfl, by rw [if_neg (by omega)]⟩ | exact ⟨rfl, by rw [if_pos (by omega), ← hL.1.get (i := p) (by omega) (by omega)]⟩
set_option maxHeartbeats 4000000 in
theorem c_X6_act {G : zG} {sz : zSz} {ar : zAr} {ws : Int → List Int} {w x n : Int} (hw : zr w) (hx : zr x) (hn0 : zr n) (hC : CK ws sz ar)  : zSem G mX6_act 4 [zR 0, zI w, zI x, zI n] (X sz ar) (zpi fun r u => u = X sz ar ∧ r = (if ¬ (0 ≤ w ∧ w < 3 ∧ 0 < sz 3 4) then -101 else if ¬ (0 ≤ n ∧ n ≤ 12 ∧ 0 ≤ x ∧ x < 2 ^ n.toNat) then -102 else rwd (ar 4) (ar 5) n.toNat (ws w) x)) := by
  refine z_enter (L' := [some (zR 0), some (zI w), some (zI x), some (zI n)]) (by decide +kernel) (Nat.le_of_ble_eq_true rfl) ⟨0, rfl⟩ ?_
  obtain ⟨hM, ⟨hp0, hp1, hc⟩, hW, ⟨hs0, hs1, hso⟩, hmr⟩ := hC
  have hn := hM.1
  have hn6 := hM.2.1
  refine z_aload_0 dX6_act_0 (n := 1) rfl ?_
  refine z_iload_1 dX6_act_1 (n := 2) rfl ?_
  refine z_callV1i dX6_act_2 (n := 5) rfl mv_X6_isActing lk_X6_99 rfl (zrm (by decide) (by decide)) (Nat.le_of_ble_eq_true rfl) (c_X6_isActing (by first | assumption | exact ⟨by omega, by omega⟩ | exact zb_zr _) (by first | assumption | exact ⟨by omega, by omega⟩ | exact zb_zr _)) (fun r u hp => ?_)
  obtain ⟨rfl, rfl⟩ := hp
  refine z_ifB_ne dX6_act_5 (n := 8) (tg := 11) rfl (by decide) (fun c5 => ?_) (fun c5 => ?_)
  · have hk := isLw c5.1 c5.2.1
    have hL := hW w c5.1 c5.2.1
    have hcp := capw c5.1 c5.2.1
    refine z_iload_2 dX6_act_11 (n := 12) rfl ?_
    refine z_iload_3 dX6_act_12 (n := 13) rfl ?_
    refine z_bipush dX6_act_13 (n := 15) rfl (by decide) ?_
    refine z_callS3i dX6_act_15 (n := 18) rfl ms_X6_isRow lk_X6_153 (zrm (by decide) (by decide)) (Nat.le_of_ble_eq_true rfl) (c_X6_isRow (by first | assumption | exact ⟨by omega, by omega⟩ | exact zb_zr _) (by first | assumption | exact ⟨by omega, by omega⟩ | exact zb_zr _) (by omega) (by omega)) (fun r u hp => ?_)
    obtain ⟨rfl, rfl⟩ := hp
    refine z_ifB_ne dX6_act_18 (n := 21) (tg := 24) rfl (by decide) (fun c18 => ?_) (fun c18 => ?_)
    · refine z_aload_0 dX6_act_24 (n := 25) rfl ?_
      refine z_get dX6_act_25 (n := 28) rfl rfl fd_X6_19 rfl ?_
      refine z_aload_0 dX6_act_28 (n := 29) rfl ?_
      refine z_get dX6_act_29 (n := 32) rfl rfl fd_X6_28 rfl ?_
      refine z_iload_1 dX6_act_32 (n := 33) rfl ?_
      refine z_aald dX6_act_33 (n := 34) rfl rfl (by omega) (by omega) (by decide) ?_
      refine z_iload_2 dX6_act_34 (n := 35) rfl ?_
      refine z_iload_3 dX6_act_35 (n := 36) rfl ?_
      refine z_callV3i dX6_act_36 (n := 39) rfl mv_X3_rowAfterWord lk_X6_157 rfl (zrm (by decide) (by decide)) (Nat.le_of_ble_eq_true rfl) (c_X3_rowAfterWord hk hM hL.1 hL.2.1 (by omega) (by omega) (by omega) (by omega) c18.2.2.2) (fun r u hp => ?_)
      obtain ⟨rfl, rfl⟩ := hp
      refine z_ret_i dX6_act_39 rfl ?_
      first | exact ⟨rfl, by rw [if_pos c5]⟩ | exact ⟨rfl, by rw [if_neg (fun z => z c5), if_pos c18]⟩ | exact ⟨rfl, by rw [if_neg (fun z => z c5), if_neg (fun z => z c18)]⟩
    · refine z_bipush dX6_act_21 (n := 23) rfl (by decide) ?_
      refine z_ret_i dX6_act_23 rfl ?_
      first | exact ⟨rfl, by rw [if_pos c5]⟩ | exact ⟨rfl, by rw [if_neg (fun z => z c5), if_pos c18]⟩ | exact ⟨rfl, by rw [if_neg (fun z => z c5), if_neg (fun z => z c18)]⟩
  · refine z_bipush dX6_act_8 (n := 10) rfl (by decide) ?_
    refine z_ret_i dX6_act_10 rfl ?_
    first | exact ⟨rfl, by rw [if_pos c5]⟩ | exact ⟨rfl, by rw [if_neg (fun z => z c5), if_pos c18]⟩ | exact ⟨rfl, by rw [if_neg (fun z => z c5), if_neg (fun z => z c18)]⟩
set_option maxHeartbeats 4000000 in
theorem lo_X6_flips {G : zG} {ws : Int → List Int} {sz : zSz} {ar : zAr} {w n : Int} (hC : CK ws sz ar) (h0 : 0 ≤ w) (h1 : w < 3) (hn0 : 0 ≤ n) (hn1 : n ≤ 4) :
    ∀ (m j : Nat) (y : Option zV), j + m = 2 ^ n.toNat → zWP G mX6_flips 4 (zpi fun r u => u = X sz ar ∧ r = fbk (ar 4) (ar 5) n.toNat (ws w) (2 ^ n.toNat)) 28 [some (zR 0), some (zI w), some (zI n), some (zI (fbk (ar 4) (ar 5) n.toNat (ws w) j)), some (zI j), y] [] (X sz ar) := by
  obtain ⟨hM, ⟨hp0, hp1, hc⟩, hW, ⟨hs0, hs1, hso⟩, hmr⟩ := hC
  have hn := hM.1
  have hn6 := hM.2.1
  have hk := isLw h0 h1
  have hL := hW w h0 h1
  have hcp := capw h0 h1
  have e16 : ∀ k, k ≤ 4 → 2 ^ k ≤ 16 := by decide
  have h16 := e16 n.toNat (by omega)
  have ec : ((2 ^ n.toNat : Nat) : Int) = 2 ^ n.toNat := by simp
  have hpn := p2_pos n.toNat
  have h16i : (2 : Int) ^ n.toNat ≤ 16 := by rw [← ec]; omega
  have es : (2 : Int) ^ (n + 1).toNat = 2 ^ n.toNat * 2 := by rw [show (n + 1).toNat = n.toNat + 1 by omega, p2_succ]
  intro m
  induction m with
  | zero =>
    intro j y hj
    have ej : j = 2 ^ n.toNat := by omega
    subst ej
    rw [ec]
    refine z_iload_4 dX6_flips_28 (n := 30) rfl ?_
    refine z_iconst dX6_flips_30 (n := 31) rfl ?_
    refine z_iload_2 dX6_flips_31 (n := 32) rfl ?_
    refine z_ishl dX6_flips_32 (n := 33) rfl (by omega) (by omega) ?_
    rw [Int.one_mul]
    refine z_icmp_ge dX6_flips_33 (n := 36) (tg := 74) rfl (by decide) (by first | assumption | exact ⟨by omega, by omega⟩ | exact zb_zr _) (by first | assumption | exact ⟨by omega, by omega⟩ | exact zb_zr _) (fun c33 => ?_) (fun c33 => ?_)
    · refine z_iload_3 dX6_flips_74 (n := 75) rfl ?_
      refine z_ret_i dX6_flips_75 rfl ?_
      exact ⟨rfl, rfl⟩
    · exfalso; omega
  | succ m ih =>
    intro j y hj
    have hr := rwd_r (ar 4) (ar 5) (n + 1).toNat (ws w) (2 * j) (by omega) (by omega)
    have hfr := fbk_r (ar 4) (ar 5) n.toNat (ws w) j
    have hp2 := p2_pos j
    have hmn : 0 ≤ rwd (ar 4) (ar 5) (n + 1).toNat (ws w) (2 * j) % 2 * 2 ^ j := Int.mul_nonneg (by omega) (by omega)
    have h9 := ih (j + 1) (some (zI (rwd (ar 4) (ar 5) (n + 1).toNat (ws w) (2 * j)))) (by omega)
    rw [show ((j + 1 : Nat) : Int) = (j : Int) + 1 by omega, show fbk (ar 4) (ar 5) n.toNat (ws w) (j + 1) = zor (fbk (ar 4) (ar 5) n.toNat (ws w) j) (rwd (ar 4) (ar 5) (n.toNat + 1) (ws w) (2 * j) % 2 * 2 ^ j) from rfl, show n.toNat + 1 = (n + 1).toNat by omega] at h9
    refine z_iload_4 dX6_flips_28 (n := 30) rfl ?_
    refine z_iconst dX6_flips_30 (n := 31) rfl ?_
    refine z_iload_2 dX6_flips_31 (n := 32) rfl ?_
    refine z_ishl dX6_flips_32 (n := 33) rfl (by omega) (by omega) ?_
    rw [Int.one_mul]
    refine z_icmp_ge dX6_flips_33 (n := 36) (tg := 74) rfl (by decide) (by first | assumption | exact ⟨by omega, by omega⟩ | exact zb_zr _) (by first | assumption | exact ⟨by omega, by omega⟩ | exact zb_zr _) (fun c33 => ?_) (fun c33 => ?_)
    · exfalso; omega
    · refine z_aload_0 dX6_flips_36 (n := 37) rfl ?_
      refine z_get dX6_flips_37 (n := 40) rfl rfl fd_X6_19 rfl ?_
      refine z_aload_0 dX6_flips_40 (n := 41) rfl ?_
      refine z_get dX6_flips_41 (n := 44) rfl rfl fd_X6_28 rfl ?_
      refine z_iload_1 dX6_flips_44 (n := 45) rfl ?_
      refine z_aald dX6_flips_45 (n := 46) rfl rfl (by omega) (by omega) (by decide) ?_
      refine z_iload_4 dX6_flips_46 (n := 48) rfl ?_
      refine z_iconst dX6_flips_48 (n := 49) rfl ?_
      refine z_ishl dX6_flips_49 (n := 50) rfl (by omega) (by omega) ?_
      rw [show (j : Int) * 2 ^ (1 : Int).toNat = 2 * j by show (j : Int) * 2 = 2 * j; omega]
      refine z_iload_2 dX6_flips_50 (n := 51) rfl ?_
      refine z_iconst dX6_flips_51 (n := 52) rfl ?_
      refine z_iadd dX6_flips_52 (n := 53) rfl ?_
      refine z_callV3i dX6_flips_53 (n := 56) rfl mv_X3_rowAfterWord lk_X6_157 rfl (zrm (by decide) (by decide)) (Nat.le_of_ble_eq_true rfl) (c_X3_rowAfterWord hk hM hL.1 hL.2.1 (by omega) (by omega) (by omega) (by omega) (by omega)) (fun r u hp => ?_)
      obtain ⟨rfl, rfl⟩ := hp
      refine z_istore_5 dX6_flips_56 (n := 58) rfl (by decide) (fun w h => by cases h; try rfl) ?_
      refine z_iload_3 dX6_flips_58 (n := 59) rfl ?_
      refine z_iload_5 dX6_flips_59 (n := 61) rfl ?_
      refine z_iconst dX6_flips_61 (n := 62) rfl ?_
      refine z_iand1 dX6_flips_62 (n := 63) rfl (by omega) ?_
      refine z_iload_4 dX6_flips_63 (n := 65) rfl ?_
      refine z_ishl dX6_flips_65 (n := 66) rfl (by omega) (by omega) ?_
      rw [Int.toNat_natCast]
      refine z_ior dX6_flips_66 (n := 67) rfl hfr.1 hmn ?_
      refine z_istore_3 dX6_flips_67 (n := 68) rfl (by decide) (fun w h => by cases h; try rfl) ?_
      refine z_iinc_4 dX6_flips_68 (n := 71) rfl (by decide) (fun w h => by cases h; try rfl) ?_
      refine z_goto dX6_flips_71 (n := 28) (by decide) ?_
      exact h9
set_option maxHeartbeats 4000000 in
theorem c_X6_flips {G : zG} {sz : zSz} {ar : zAr} {ws : Int → List Int} {w n : Int} (hw : zr w) (hn0 : zr n) (hC : CK ws sz ar)  : zSem G mX6_flips 4 [zR 0, zI w, zI n] (X sz ar) (zpi fun r u => u = X sz ar ∧ r = (if ¬ (0 ≤ w ∧ w < 3 ∧ 0 < sz 3 4) then -101 else if ¬ (0 ≤ n ∧ n ≤ 4) then -102 else fbk (ar 4) (ar 5) n.toNat (ws w) (2 ^ n.toNat))) := by
  refine z_enter (L' := [some (zR 0), some (zI w), some (zI n), none, none, none]) (by decide +kernel) (Nat.le_of_ble_eq_true rfl) ⟨3, rfl⟩ ?_
  have hn := hC.1.1
  have hn6 := hC.1.2.1
  refine z_aload_0 dX6_flips_0 (n := 1) rfl ?_
  refine z_iload_1 dX6_flips_1 (n := 2) rfl ?_
  refine z_callV1i dX6_flips_2 (n := 5) rfl mv_X6_isActing lk_X6_99 rfl (zrm (by decide) (by decide)) (Nat.le_of_ble_eq_true rfl) (c_X6_isActing (by first | assumption | exact ⟨by omega, by omega⟩ | exact zb_zr _) (by first | assumption | exact ⟨by omega, by omega⟩ | exact zb_zr _)) (fun r u hp => ?_)
  obtain ⟨rfl, rfl⟩ := hp
  refine z_ifB_ne dX6_flips_5 (n := 8) (tg := 11) rfl (by decide) (fun c5 => ?_) (fun c5 => ?_)
  · refine z_iload_2 dX6_flips_11 (n := 12) rfl ?_
    refine z_if_lt dX6_flips_12 (n := 15) (tg := 20) rfl (by decide) (by first | assumption | exact ⟨by omega, by omega⟩ | exact zb_zr _) (fun c12 => ?_) (fun c12 => ?_)
    · refine z_bipush dX6_flips_20 (n := 22) rfl (by decide) ?_
      refine z_ret_i dX6_flips_22 rfl ?_
      first | exact ⟨rfl, by rw [if_pos c5]⟩ | exact ⟨rfl, by rw [if_neg (fun z => z c5), if_pos (by omega)]⟩
    · refine z_iload_2 dX6_flips_15 (n := 16) rfl ?_
      refine z_iconst dX6_flips_16 (n := 17) rfl ?_
      refine z_icmp_le dX6_flips_17 (n := 20) (tg := 23) rfl (by decide) (by first | assumption | exact ⟨by omega, by omega⟩ | exact zb_zr _) (by first | assumption | exact ⟨by omega, by omega⟩ | exact zb_zr _) (fun c17 => ?_) (fun c17 => ?_)
      · refine z_iconst dX6_flips_23 (n := 24) rfl ?_
        refine z_istore_3 dX6_flips_24 (n := 25) rfl (by decide) (fun w h => by cases h; try rfl) ?_
        refine z_iconst dX6_flips_25 (n := 26) rfl ?_
        refine z_istore_4 dX6_flips_26 (n := 28) rfl (by decide) (fun w h => by cases h; try rfl) ?_
        rw [if_neg (fun z => z c5), if_neg (by omega)]
        exact lo_X6_flips hC c5.1 c5.2.1 (by omega) (by omega) (2 ^ n.toNat) 0 none (by omega)
      · refine z_bipush dX6_flips_20 (n := 22) rfl (by decide) ?_
        refine z_ret_i dX6_flips_22 rfl ?_
        first | exact ⟨rfl, by rw [if_pos c5]⟩ | exact ⟨rfl, by rw [if_neg (fun z => z c5), if_pos (by omega)]⟩
  · refine z_bipush dX6_flips_8 (n := 10) rfl (by decide) ?_
    refine z_ret_i dX6_flips_10 rfl ?_
    first | exact ⟨rfl, by rw [if_pos c5]⟩ | exact ⟨rfl, by rw [if_neg (fun z => z c5), if_pos (by omega)]⟩
set_option maxHeartbeats 4000000 in
theorem c_X6_round {G : zG} {sz : zSz} {ar : zAr} {ws : Int → List Int} {w x n : Int} (hw : zr w) (hx : zr x) (hn0 : zr n) (hC : CK ws sz ar)  : zSem G mX6_round 4 [zR 0, zI w, zI x, zI n] (X sz ar) (zpi fun r u => u = X sz ar ∧ r = (if ¬ (0 ≤ w ∧ w < 3 ∧ 0 < sz 3 4) then -101 else if ¬ (0 ≤ n ∧ n ≤ 8 ∧ 0 ≤ x ∧ x < 2 ^ n.toNat) then -102 else rdG (rwd (ar 4) (ar 5) n.toNat (ws w)) x 256 x 1)) := by
  refine z_enter (L' := [some (zR 0), some (zI w), some (zI x), some (zI n), none, none]) (by decide +kernel) (Nat.le_of_ble_eq_true rfl) ⟨2, rfl⟩ ?_
  obtain ⟨hM, ⟨hp0, hp1, hc⟩, hW, ⟨hs0, hs1, hso⟩, hmr⟩ := hC
  have hn := hM.1
  have hn6 := hM.2.1
  have HO : 0 ≤ w → w < 3 → 0 ≤ n → n ≤ 8 → ∀ (m : Nat) (d now : Int), 1 ≤ d → d + m = 257 → 0 ≤ now → now < 2 ^ n.toNat → zWP G mX6_round 4 (zpi fun r u => u = X sz ar ∧ r = rdG (rwd (ar 4) (ar 5) n.toNat (ws w)) x m now d) 30 [some (zR 0), some (zI w), some (zI x), some (zI n), some (zI now), some (zI d)] [] (X sz ar) := by
    intro a0 a1 b0 b1 m
    have hk := isLw a0 a1
    have hL := hW w a0 a1
    have hcp := capw a0 a1
    have hpp := p2_12 n.toNat (by omega)
    induction m with
    | zero =>
      intro d now hd0 hd hr0 hr1
      refine z_iload_5 dX6_round_30 (n := 32) rfl ?_
      refine z_sipush dX6_round_32 (n := 35) rfl (by decide) ?_
      refine z_icmp_gt dX6_round_35 (n := 38) (tg := 71) rfl (by decide) (by first | assumption | exact ⟨by omega, by omega⟩ | exact zb_zr _) (by first | assumption | exact ⟨by omega, by omega⟩ | exact zb_zr _) (fun c35 => ?_) (fun c35 => ?_)
      · refine z_iconst dX6_round_71 (n := 72) rfl ?_
        refine z_ret_i dX6_round_72 rfl ?_
        exact ⟨rfl, rfl⟩
      · exfalso; omega
    | succ m ih =>
      intro d now hd0 hd hr0 hr1
      have hr := rwd_r (ar 4) (ar 5) n.toNat (ws w) now hr0 hr1
      have h9 := ih (d + 1) _ (by omega) (by omega) hr.1 hr.2
      refine z_iload_5 dX6_round_30 (n := 32) rfl ?_
      refine z_sipush dX6_round_32 (n := 35) rfl (by decide) ?_
      refine z_icmp_gt dX6_round_35 (n := 38) (tg := 71) rfl (by decide) (by first | assumption | exact ⟨by omega, by omega⟩ | exact zb_zr _) (by first | assumption | exact ⟨by omega, by omega⟩ | exact zb_zr _) (fun c35 => ?_) (fun c35 => ?_)
      · exfalso; omega
      · refine z_aload_0 dX6_round_38 (n := 39) rfl ?_
        refine z_get dX6_round_39 (n := 42) rfl rfl fd_X6_19 rfl ?_
        refine z_aload_0 dX6_round_42 (n := 43) rfl ?_
        refine z_get dX6_round_43 (n := 46) rfl rfl fd_X6_28 rfl ?_
        refine z_iload_1 dX6_round_46 (n := 47) rfl ?_
        refine z_aald dX6_round_47 (n := 48) rfl rfl (by omega) (by omega) (by decide) ?_
        refine z_iload_4 dX6_round_48 (n := 50) rfl ?_
        refine z_iload_3 dX6_round_50 (n := 51) rfl ?_
        refine z_callV3i dX6_round_51 (n := 54) rfl mv_X3_rowAfterWord lk_X6_157 rfl (zrm (by decide) (by decide)) (Nat.le_of_ble_eq_true rfl) (c_X3_rowAfterWord hk hM hL.1 hL.2.1 (by omega) (by omega) (by omega) hr0 hr1) (fun r u hp => ?_)
        obtain ⟨rfl, rfl⟩ := hp
        refine z_istore_4 dX6_round_54 (n := 56) rfl (by decide) (fun w h => by cases h; try rfl) ?_
        refine z_iload_4 dX6_round_56 (n := 58) rfl ?_
        refine z_iload_2 dX6_round_58 (n := 59) rfl ?_
        refine z_icmp_ne dX6_round_59 (n := 62) (tg := 65) rfl (by decide) (by first | assumption | exact ⟨by omega, by omega⟩ | exact zb_zr _) (by first | assumption | exact ⟨by omega, by omega⟩ | exact zb_zr _) (fun c59 => ?_) (fun c59 => ?_)
        · refine z_iinc_5 dX6_round_65 (n := 68) rfl (by decide) (fun w h => by cases h; try rfl) ?_
          refine z_goto dX6_round_68 (n := 30) (by decide) ?_
          rw [rdG, if_neg c59]
          exact h9
        · refine z_iload_5 dX6_round_62 (n := 64) rfl ?_
          refine z_ret_i dX6_round_64 rfl ?_
          exact ⟨rfl, by rw [rdG, if_pos c59]⟩
  refine z_aload_0 dX6_round_0 (n := 1) rfl ?_
  refine z_iload_1 dX6_round_1 (n := 2) rfl ?_
  refine z_callV1i dX6_round_2 (n := 5) rfl mv_X6_isActing lk_X6_99 rfl (zrm (by decide) (by decide)) (Nat.le_of_ble_eq_true rfl) (c_X6_isActing (by first | assumption | exact ⟨by omega, by omega⟩ | exact zb_zr _) (by first | assumption | exact ⟨by omega, by omega⟩ | exact zb_zr _)) (fun r u hp => ?_)
  obtain ⟨rfl, rfl⟩ := hp
  refine z_ifB_ne dX6_round_5 (n := 8) (tg := 11) rfl (by decide) (fun c5 => ?_) (fun c5 => ?_)
  · refine z_iload_2 dX6_round_11 (n := 12) rfl ?_
    refine z_iload_3 dX6_round_12 (n := 13) rfl ?_
    refine z_bipush dX6_round_13 (n := 15) rfl (by decide) ?_
    refine z_callS3i dX6_round_15 (n := 18) rfl ms_X6_isRow lk_X6_153 (zrm (by decide) (by decide)) (Nat.le_of_ble_eq_true rfl) (c_X6_isRow (by first | assumption | exact ⟨by omega, by omega⟩ | exact zb_zr _) (by first | assumption | exact ⟨by omega, by omega⟩ | exact zb_zr _) (by omega) (by omega)) (fun r u hp => ?_)
    obtain ⟨rfl, rfl⟩ := hp
    refine z_ifB_ne dX6_round_18 (n := 21) (tg := 24) rfl (by decide) (fun c18 => ?_) (fun c18 => ?_)
    · refine z_iload_2 dX6_round_24 (n := 25) rfl ?_
      refine z_istore_4 dX6_round_25 (n := 27) rfl (by decide) (fun w h => by cases h; try rfl) ?_
      refine z_iconst dX6_round_27 (n := 28) rfl ?_
      refine z_istore_5 dX6_round_28 (n := 30) rfl (by decide) (fun w h => by cases h; try rfl) ?_
      rw [if_neg (fun z => z c5), if_neg (fun z => z c18)]
      exact HO c5.1 c5.2.1 c18.1 c18.2.1 256 1 x (by omega) (by omega) c18.2.2.1 c18.2.2.2
    · refine z_bipush dX6_round_21 (n := 23) rfl (by decide) ?_
      refine z_ret_i dX6_round_23 rfl ?_
      first | exact ⟨rfl, by rw [if_pos c5]⟩ | exact ⟨rfl, by rw [if_neg (fun z => z c5), if_pos c18]⟩
  · refine z_bipush dX6_round_8 (n := 10) rfl (by decide) ?_
    refine z_ret_i dX6_round_10 rfl ?_
    first | exact ⟨rfl, by rw [if_pos c5]⟩ | exact ⟨rfl, by rw [if_neg (fun z => z c5), if_pos c18]⟩
set_option maxHeartbeats 4000000 in
theorem c_X6_nothing {G : zG} {sz : zSz} {ar : zAr} {ws : Int → List Int} {w : Int} (hw : zr w) (hC : CK ws sz ar)  : zSem G mX6_nothing 5 [zR 0, zI w] (X sz ar) (zpi fun r u => r = (if ¬ (0 ≤ w ∧ w < 3 ∧ 0 < sz 3 4) then -101 else ntw (ar 4) (ar 5) (ws w)) ∧ ∃ sz' ar', u = X sz' ar' ∧ Fg sz ar sz' ar') := by
  refine z_enter (L' := [some (zR 0), some (zI w)]) (by decide +kernel) (Nat.le_of_ble_eq_true rfl) ⟨0, rfl⟩ ?_
  obtain ⟨hM, ⟨hp0, hp1, hc⟩, hW, ⟨hs0, hs1, hso⟩, hmr⟩ := hC
  have hn := hM.1
  have hn6 := hM.2.1
  refine z_aload_0 dX6_nothing_0 (n := 1) rfl ?_
  refine z_iload_1 dX6_nothing_1 (n := 2) rfl ?_
  refine z_callV1i dX6_nothing_2 (n := 5) rfl mv_X6_isActing lk_X6_99 rfl (zrm (by decide) (by decide)) (Nat.le_of_ble_eq_true rfl) (c_X6_isActing (by first | assumption | exact ⟨by omega, by omega⟩ | exact zb_zr _) (by first | assumption | exact ⟨by omega, by omega⟩ | exact zb_zr _)) (fun r u hp => ?_)
  obtain ⟨rfl, rfl⟩ := hp
  refine z_ifB_eq dX6_nothing_5 (n := 8) (tg := 28) rfl (by decide) (fun c5 => ?_) (fun c5 => ?_)
  · refine z_bipush dX6_nothing_28 (n := 30) rfl (by decide) ?_
    refine z_ret_i dX6_nothing_30 rfl ?_
    first | exact ⟨by rw [if_pos c5], _, _, rfl, Fg.rf⟩ | exact ⟨by rw [if_neg (fun z => z c5)], _, _, rfl, hF.g⟩
  · have hk := isLw c5.1 c5.2.1
    have hL := hW w c5.1 c5.2.1
    have hcp := capw c5.1 c5.2.1
    refine z_aload_0 dX6_nothing_8 (n := 9) rfl ?_
    refine z_get dX6_nothing_9 (n := 12) rfl rfl fd_X6_51 rfl ?_
    refine z_aload_0 dX6_nothing_12 (n := 13) rfl ?_
    refine z_get dX6_nothing_13 (n := 16) rfl rfl fd_X6_19 rfl ?_
    refine z_aload_0 dX6_nothing_16 (n := 17) rfl ?_
    refine z_get dX6_nothing_17 (n := 20) rfl rfl fd_X6_28 rfl ?_
    refine z_iload_1 dX6_nothing_20 (n := 21) rfl ?_
    refine z_aald dX6_nothing_21 (n := 22) rfl rfl (by omega) (by omega) (by decide) ?_
    refine z_callV2i dX6_nothing_22 (n := 25) rfl mv_X4_tellNothing lk_X6_161 rfl (zrm (by decide) (by decide)) (Nat.le_of_ble_eq_true rfl) (c_X4_tellNothing hk hM hL.1 hL.2.1 (by omega) (by omega)) (fun r u hp => ?_)
    obtain ⟨rfl, sz2, ar2, rfl, hF⟩ := hp
    refine z_goto dX6_nothing_25 (n := 30) (by decide) ?_
    refine z_ret_i dX6_nothing_30 rfl ?_
    first | exact ⟨by rw [if_pos c5], _, _, rfl, Fg.rf⟩ | exact ⟨by rw [if_neg (fun z => z c5)], _, _, rfl, hF.g⟩
