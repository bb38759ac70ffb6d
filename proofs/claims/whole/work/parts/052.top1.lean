/-! TreeActs: texts -/
def rdK (c : Int → Int) (i : Int) (old : Int → Int) : Int → Int := fun j => if 0 ≤ j ∧ j < i then kindB (c (4 * j)) else old j
def rdN (c : Int → Int) (i : Int) (old : Int → Int) : Int → Int := fun j => if 0 ≤ j ∧ j < 2 * i then nxt (c (4 * (j / 2) + 1 + j % 2)) else old j
theorem rdK_0 {c old : Int → Int} : rdK c 0 old = old := by
  funext j
  unfold rdK
  rw [if_neg (by omega)]
theorem rdN_0 {c old : Int → Int} : rdN c 0 old = old := by
  funext j
  unfold rdN
  rw [if_neg (by omega)]
theorem rdK_s {c old : Int → Int} {i : Int} (h : 0 ≤ i) : zf (rdK c i old) i (kindB (c (4 * i))) = rdK c (i + 1) old := by
  funext j
  unfold zf rdK
  by_cases e : j = i
  · subst e
    rw [if_pos rfl, if_pos (by omega)]
  · rw [if_neg e]
    by_cases e2 : 0 ≤ j ∧ j < i
    · rw [if_pos e2, if_pos (by omega)]
    · rw [if_neg e2, if_neg (by omega)]
theorem rdN_s {c old : Int → Int} {i : Int} (h : 0 ≤ i) : zf (zf (rdN c i old) (2 * i + 0) (nxt (c (4 * i + 1 + 0)))) (2 * i + 1) (nxt (c (4 * i + 1 + 1))) = rdN c (i + 1) old := by
  funext j
  unfold zf rdN
  by_cases e : j = 2 * i + 1
  · rw [if_pos e, if_pos (by omega), show 4 * (j / 2) + 1 + j % 2 = 4 * i + 1 + 1 by omega]
  · rw [if_neg e]
    by_cases e3 : j = 2 * i + 0
    · rw [if_pos e3, if_pos (by omega), show 4 * (j / 2) + 1 + j % 2 = 4 * i + 1 + 0 by omega]
    · rw [if_neg e3]
      by_cases e2 : 0 ≤ j ∧ j < 2 * i
      · rw [if_pos e2, if_pos (by omega)]
      · rw [if_neg e2, if_neg (by omega)]
set_option maxHeartbeats 4000000 in
theorem lo_X3_readFrom {G : zG} {sz : zSz} {ar : zAr} {q : Int} (hc : ∀ i, zr (ar 2 i)) (hp0 : 0 ≤ sz 1 1) (hp1 : sz 1 1 ≤ 24) (hq : 4 * q = sz 1 1 + 1) (h34 : sz 3 4 = q) :
    ∀ (m : Nat) (i : Int) (ar' : zAr), 0 ≤ i → i + m = q → ar' 4 = rdK (ar 2) i (ar 4) → ar' 5 = rdN (ar 2) i (ar 5) → (∀ j, j ≠ 4 → j ≠ 5 → ar' j = ar j) →
    zWP G mX3_readFrom 6 (zpv fun u => ∃ ar', u = X sz ar' ∧ ar' 4 = rdK (ar 2) q (ar 4) ∧ ar' 5 = rdN (ar 2) q (ar 5) ∧ ∀ j, j ≠ 4 → j ≠ 5 → ar' j = ar j) 15 [some (zR 3), some (zR 1), some (zI i)] [] (X sz ar') := by
  intro m
  induction m with
  | zero =>
    intro i ar' hi0 hi h4 h5 hF
    have ei : i = q := by omega
    subst ei
    refine z_iload_2 dX3_readFrom_15 (n := 16) rfl ?_
    refine z_aload_0 dX3_readFrom_16 (n := 17) rfl ?_
    refine z_get dX3_readFrom_17 (n := 20) rfl rfl fd_X3_24 rfl ?_
    refine z_icmp_ge dX3_readFrom_20 (n := 23) (tg := 63) rfl (by decide) (by first | assumption | exact ⟨by omega, by omega⟩ | exact zb_zr _) (by first | assumption | exact ⟨by omega, by omega⟩ | exact zb_zr _) (fun c20 => ?_) (fun c20 => ?_)
    · refine z_ret_v dX3_readFrom_63 rfl ?_
      exact ⟨_, rfl, h4, h5, hF⟩
    · exfalso; omega
  | succ m ih =>
    intro i ar' hi0 hi h4 h5 hF
    have e2 := hF 2 (by decide) (by decide)
    have hc' : ∀ i, zr (ar' 2 i) := by rw [e2]; exact hc
    refine z_iload_2 dX3_readFrom_15 (n := 16) rfl ?_
    refine z_aload_0 dX3_readFrom_16 (n := 17) rfl ?_
    refine z_get dX3_readFrom_17 (n := 20) rfl rfl fd_X3_24 rfl ?_
    refine z_icmp_ge dX3_readFrom_20 (n := 23) (tg := 63) rfl (by decide) (by first | assumption | exact ⟨by omega, by omega⟩ | exact zb_zr _) (by first | assumption | exact ⟨by omega, by omega⟩ | exact zb_zr _) (fun c20 => ?_) (fun c20 => ?_)
    · exfalso; omega
    · refine z_aload_0 dX3_readFrom_23 (n := 24) rfl ?_
      refine z_iload_2 dX3_readFrom_24 (n := 25) rfl ?_
      refine z_aload_1 dX3_readFrom_25 (n := 26) rfl ?_
      refine z_iload_2 dX3_readFrom_26 (n := 27) rfl ?_
      refine z_callV1i dX3_readFrom_27 (n := 30) rfl mv_X2_kindTold lk_X3_40 rfl (zrm (by decide) (by decide)) (Nat.le_of_ble_eq_true rfl) (c_X2_kindTold hp0 hp1 hc' hi0 (by omega)) (fun r u hp => ?_)
      obtain ⟨rfl, rfl⟩ := hp
      rw [e2]
      refine z_callV2v dX3_readFrom_30 (n := 33) rfl mv_X3_setKind lk_X3_44 rfl (zrm (by decide) (by decide)) (Nat.le_of_ble_eq_true rfl) (c_X3_setKind hi0 (by omega) (by omega)) (fun u hp => ?_)
      subst hp
      refine z_aload_0 dX3_readFrom_33 (n := 34) rfl ?_
      refine z_iload_2 dX3_readFrom_34 (n := 35) rfl ?_
      refine z_iconst dX3_readFrom_35 (n := 36) rfl ?_
      refine z_aload_1 dX3_readFrom_36 (n := 37) rfl ?_
      refine z_iload_2 dX3_readFrom_37 (n := 38) rfl ?_
      refine z_iconst dX3_readFrom_38 (n := 39) rfl ?_
      refine z_callV2i dX3_readFrom_39 (n := 42) rfl mv_X2_nextTold lk_X3_48 rfl (zrm (by decide) (by decide)) (Nat.le_of_ble_eq_true rfl) (c_X2_nextTold hp0 hp1 (by rw [zq_ne (by decide)]; exact hc') hi0 (by omega) (by omega) (by omega)) (fun r u hp => ?_)
      obtain ⟨rfl, rfl⟩ := hp
      rw [zq_ne (by decide), e2]
      refine z_callV3v dX3_readFrom_42 (n := 45) rfl mv_X3_setNext lk_X3_51 rfl (zrm (by decide) (by decide)) (Nat.le_of_ble_eq_true rfl) (c_X3_setNext hi0 (by omega) (by omega) (by omega) (by omega)) (fun u hp => ?_)
      subst hp
      refine z_aload_0 dX3_readFrom_45 (n := 46) rfl ?_
      refine z_iload_2 dX3_readFrom_46 (n := 47) rfl ?_
      refine z_iconst dX3_readFrom_47 (n := 48) rfl ?_
      refine z_aload_1 dX3_readFrom_48 (n := 49) rfl ?_
      refine z_iload_2 dX3_readFrom_49 (n := 50) rfl ?_
      refine z_iconst dX3_readFrom_50 (n := 51) rfl ?_
      refine z_callV2i dX3_readFrom_51 (n := 54) rfl mv_X2_nextTold lk_X3_48 rfl (zrm (by decide) (by decide)) (Nat.le_of_ble_eq_true rfl) (c_X2_nextTold hp0 hp1 (by rw [zq_ne (by decide), zq_ne (by decide)]; exact hc') hi0 (by omega) (by omega) (by omega)) (fun r u hp => ?_)
      obtain ⟨rfl, rfl⟩ := hp
      rw [zq_ne (by decide), zq_ne (by decide), e2]
      refine z_callV3v dX3_readFrom_54 (n := 57) rfl mv_X3_setNext lk_X3_51 rfl (zrm (by decide) (by decide)) (Nat.le_of_ble_eq_true rfl) (c_X3_setNext hi0 (by omega) (by omega) (by omega) (by omega)) (fun u hp => ?_)
      subst hp
      refine z_iinc_2 dX3_readFrom_57 (n := 60) rfl (by decide) (fun w h => by cases h; try rfl) ?_
      refine z_goto dX3_readFrom_60 (n := 15) (by decide) ?_
      refine ih (i + 1) _ (by omega) (by omega) ?_ ?_ ?_
      · rw [zq_ne (by decide), zq_ne (by decide), zq_eq, h4]; exact rdK_s hi0
      · rw [zq_eq, zq_eq, zq_ne (by decide), h5]; exact rdN_s hi0
      · intro j a b; rw [zq_ne b, zq_ne b, zq_ne a]; exact hF j a b
set_option maxHeartbeats 4000000 in
theorem c_X3_readFrom {G : zG} {sz : zSz} {ar : zAr} {q : Int} (hc : ∀ i, zr (ar 2 i)) (hp0 : 0 ≤ sz 1 1) (hp1 : sz 1 1 ≤ 24) (hq : 4 * q = sz 1 1 + 1)  : zSem G mX3_readFrom 6 [zR 3, zR 1] (X sz ar) (zpv fun u => ∃ ar', u = X (zz sz 3 4 q) ar' ∧ ar' 4 = rdK (ar 2) q (ar 4) ∧ ar' 5 = rdN (ar 2) q (ar 5) ∧ ∀ j, j ≠ 4 → j ≠ 5 → ar' j = ar j) := by
  refine z_enter (L' := [some (zR 3), some (zR 1), none]) (by decide +kernel) (Nat.le_of_ble_eq_true rfl) ⟨1, rfl⟩ ?_
  refine z_aload_0 dX3_readFrom_0 (n := 1) rfl ?_
  refine z_aload_1 dX3_readFrom_1 (n := 2) rfl ?_
  refine z_callV0i dX3_readFrom_2 (n := 5) rfl mv_X2_statesTold lk_X3_28 rfl (zrm (by decide) (by decide)) (Nat.le_of_ble_eq_true rfl) (c_X2_statesTold (by omega) (by omega)) (fun r u hp => ?_)
  obtain ⟨rfl, rfl⟩ := hp
  refine z_bipush dX3_readFrom_5 (n := 7) rfl (by decide) ?_
  refine z_mmin dX3_readFrom_7 (n := 10) rfl lk_X3_34 (by first | assumption | exact ⟨by omega, by omega⟩ | exact zb_zr _) (by first | assumption | exact ⟨by omega, by omega⟩ | exact zb_zr _) (by decide) (Nat.le_of_ble_eq_true rfl) (by decide) (by decide) ?_
  rw [show (if (sz 1 1 + 1) / 4 ≤ 6 then (sz 1 1 + 1) / 4 else 6) = q by rw [if_pos (by omega)]; omega]
  refine z_putX dX3_readFrom_10 (n := 13) rfl rfl fw_X3_24 (by first | decide | simp) rfl ?_
  refine z_iconst dX3_readFrom_13 (n := 14) rfl ?_
  refine z_istore_2 dX3_readFrom_14 (n := 15) rfl (by decide) (fun w h => by cases h; try rfl) ?_
  exact lo_X3_readFrom (sz := zz sz 3 4 q) hc (by rw [zz_ne (by decide)]; exact hp0) (by rw [zz_ne (by decide)]; exact hp1) (by rw [zz_ne (by decide)]; exact hq) zz_eq q.toNat 0 ar (by omega) (by omega) rdK_0.symm rdN_0.symm (fun _ _ _ => rfl)
set_option maxHeartbeats 4000000 in
theorem c_X6_letterOf2 {G : zG} {sz : zSz} {ar : zAr} {s b : Int} (hb : b = 0 ∨ b = 1)  : zSem G mX6_letterOf 0 [zI s, zI b] (X sz ar) (zpi fun r u => r = 2 * s + b ∧ u = X sz ar) := by
  refine z_enter (L' := [some (zI s), some (zI b)]) (by decide +kernel) (Nat.le_of_ble_eq_true rfl) ⟨0, rfl⟩ ?_
  refine z_iconst dX6_letterOf_0 (n := 1) rfl ?_
  refine z_iload_0 dX6_letterOf_1 (n := 2) rfl ?_
  refine z_imul dX6_letterOf_2 (n := 3) rfl ?_
  refine z_iload_1 dX6_letterOf_3 (n := 4) rfl ?_
  refine z_if_eq dX6_letterOf_4 (n := 7) (tg := 11) rfl (by decide) (by first | assumption | exact ⟨by omega, by omega⟩ | exact zb_zr _) (fun c4 => ?_) (fun c4 => ?_)
  · refine z_iconst dX6_letterOf_11 (n := 12) rfl ?_
    refine z_iadd dX6_letterOf_12 (n := 13) rfl ?_
    refine z_ret_i dX6_letterOf_13 rfl ?_
    exact ⟨by omega, rfl⟩
  · refine z_iconst dX6_letterOf_7 (n := 8) rfl ?_
    refine z_goto dX6_letterOf_8 (n := 12) (by decide) ?_
    refine z_iadd dX6_letterOf_12 (n := 13) rfl ?_
    refine z_ret_i dX6_letterOf_13 rfl ?_
    exact ⟨by omega, rfl⟩
def lco (c : Int) : Int := if 97 ≤ c ∧ c < 103 then 2 * (c - 97) else if 65 ≤ c ∧ c < 71 then 2 * (c - 65) + 1 else -1
def cdl (l : Int) : Int := if l % 2 = 1 then 65 + l / 2 else 97 + l / 2
theorem lco_r (c : Int) : -1 ≤ lco c ∧ lco c < 12 := by
  unfold lco
  split
  · omega
  · split <;> omega
set_option maxHeartbeats 4000000 in
theorem c_X6_letterOfCode {G : zG} {sz : zSz} {ar : zAr} {c : Int} (hc : zr c)  : zSem G mX6_letterOfCode 1 [zI c] (X sz ar) (zpi fun r u => r = lco c ∧ u = X sz ar) := by
  refine z_enter (L' := [some (zI c)]) (by decide +kernel) (Nat.le_of_ble_eq_true rfl) ⟨0, rfl⟩ ?_
  refine z_iload_0 dX6_letterOfCode_0 (n := 1) rfl ?_
  refine z_bipush dX6_letterOfCode_1 (n := 3) rfl (by decide) ?_
  refine z_icmp_lt dX6_letterOfCode_3 (n := 6) (tg := 21) rfl (by decide) (by first | assumption | exact ⟨by omega, by omega⟩ | exact zb_zr _) (by first | assumption | exact ⟨by omega, by omega⟩ | exact zb_zr _) (fun c3 => ?_) (fun c3 => ?_)
  · refine z_iload_0 dX6_letterOfCode_21 (n := 22) rfl ?_
    refine z_bipush dX6_letterOfCode_22 (n := 24) rfl (by decide) ?_
    refine z_icmp_lt dX6_letterOfCode_24 (n := 27) (tg := 42) rfl (by decide) (by first | assumption | exact ⟨by omega, by omega⟩ | exact zb_zr _) (by first | assumption | exact ⟨by omega, by omega⟩ | exact zb_zr _) (fun c24 => ?_) (fun c24 => ?_)
    · refine z_iconst dX6_letterOfCode_42 (n := 43) rfl ?_
      refine z_ret_i dX6_letterOfCode_43 rfl ?_
      first | exact ⟨by unfold lco; rw [if_pos (by omega)]; omega, rfl⟩ | exact ⟨by unfold lco; rw [if_neg (by omega), if_pos (by omega)], rfl⟩ | exact ⟨by unfold lco; rw [if_neg (by omega), if_neg (by omega)], rfl⟩
    · refine z_iload_0 dX6_letterOfCode_27 (n := 28) rfl ?_
      refine z_bipush dX6_letterOfCode_28 (n := 30) rfl (by decide) ?_
      refine z_icmp_ge dX6_letterOfCode_30 (n := 33) (tg := 42) rfl (by decide) (by first | assumption | exact ⟨by omega, by omega⟩ | exact zb_zr _) (by first | assumption | exact ⟨by omega, by omega⟩ | exact zb_zr _) (fun c30 => ?_) (fun c30 => ?_)
      · refine z_iconst dX6_letterOfCode_42 (n := 43) rfl ?_
        refine z_ret_i dX6_letterOfCode_43 rfl ?_
        first | exact ⟨by unfold lco; rw [if_pos (by omega)]; omega, rfl⟩ | exact ⟨by unfold lco; rw [if_neg (by omega), if_pos (by omega)], rfl⟩ | exact ⟨by unfold lco; rw [if_neg (by omega), if_neg (by omega)], rfl⟩
      · refine z_iload_0 dX6_letterOfCode_33 (n := 34) rfl ?_
        refine z_bipush dX6_letterOfCode_34 (n := 36) rfl (by decide) ?_
        refine z_isub dX6_letterOfCode_36 (n := 37) rfl ?_
        refine z_iconst dX6_letterOfCode_37 (n := 38) rfl ?_
        refine z_callS2i dX6_letterOfCode_38 (n := 41) rfl ms_X6_letterOf lk_X6_255 (zrm (by decide) (by decide)) (Nat.le_of_ble_eq_true rfl) (c_X6_letterOf2 (by omega)) (fun r u hp => ?_)
        obtain ⟨rfl, rfl⟩ := hp
        refine z_ret_i dX6_letterOfCode_41 rfl ?_
        first | exact ⟨by unfold lco; rw [if_pos (by omega)]; omega, rfl⟩ | exact ⟨by unfold lco; rw [if_neg (by omega), if_pos (by omega)], rfl⟩ | exact ⟨by unfold lco; rw [if_neg (by omega), if_neg (by omega)], rfl⟩
  · refine z_iload_0 dX6_letterOfCode_6 (n := 7) rfl ?_
    refine z_bipush dX6_letterOfCode_7 (n := 9) rfl (by decide) ?_
    refine z_icmp_ge dX6_letterOfCode_9 (n := 12) (tg := 21) rfl (by decide) (by first | assumption | exact ⟨by omega, by omega⟩ | exact zb_zr _) (by first | assumption | exact ⟨by omega, by omega⟩ | exact zb_zr _) (fun c9 => ?_) (fun c9 => ?_)
    · refine z_iload_0 dX6_letterOfCode_21 (n := 22) rfl ?_
      refine z_bipush dX6_letterOfCode_22 (n := 24) rfl (by decide) ?_
      refine z_icmp_lt dX6_letterOfCode_24 (n := 27) (tg := 42) rfl (by decide) (by first | assumption | exact ⟨by omega, by omega⟩ | exact zb_zr _) (by first | assumption | exact ⟨by omega, by omega⟩ | exact zb_zr _) (fun c24 => ?_) (fun c24 => ?_)
      · refine z_iconst dX6_letterOfCode_42 (n := 43) rfl ?_
        refine z_ret_i dX6_letterOfCode_43 rfl ?_
        first | exact ⟨by unfold lco; rw [if_pos (by omega)]; omega, rfl⟩ | exact ⟨by unfold lco; rw [if_neg (by omega), if_pos (by omega)], rfl⟩ | exact ⟨by unfold lco; rw [if_neg (by omega), if_neg (by omega)], rfl⟩
      · refine z_iload_0 dX6_letterOfCode_27 (n := 28) rfl ?_
        refine z_bipush dX6_letterOfCode_28 (n := 30) rfl (by decide) ?_
        refine z_icmp_ge dX6_letterOfCode_30 (n := 33) (tg := 42) rfl (by decide) (by first | assumption | exact ⟨by omega, by omega⟩ | exact zb_zr _) (by first | assumption | exact ⟨by omega, by omega⟩ | exact zb_zr _) (fun c30 => ?_) (fun c30 => ?_)
        · refine z_iconst dX6_letterOfCode_42 (n := 43) rfl ?_
          refine z_ret_i dX6_letterOfCode_43 rfl ?_
          first | exact ⟨by unfold lco; rw [if_pos (by omega)]; omega, rfl⟩ | exact ⟨by unfold lco; rw [if_neg (by omega), if_pos (by omega)], rfl⟩ | exact ⟨by unfold lco; rw [if_neg (by omega), if_neg (by omega)], rfl⟩
        · refine z_iload_0 dX6_letterOfCode_33 (n := 34) rfl ?_
          refine z_bipush dX6_letterOfCode_34 (n := 36) rfl (by decide) ?_
          refine z_isub dX6_letterOfCode_36 (n := 37) rfl ?_
          refine z_iconst dX6_letterOfCode_37 (n := 38) rfl ?_
          refine z_callS2i dX6_letterOfCode_38 (n := 41) rfl ms_X6_letterOf lk_X6_255 (zrm (by decide) (by decide)) (Nat.le_of_ble_eq_true rfl) (c_X6_letterOf2 (by omega)) (fun r u hp => ?_)
          obtain ⟨rfl, rfl⟩ := hp
          refine z_ret_i dX6_letterOfCode_41 rfl ?_
          first | exact ⟨by unfold lco; rw [if_pos (by omega)]; omega, rfl⟩ | exact ⟨by unfold lco; rw [if_neg (by omega), if_pos (by omega)], rfl⟩ | exact ⟨by unfold lco; rw [if_neg (by omega), if_neg (by omega)], rfl⟩
    · refine z_iload_0 dX6_letterOfCode_12 (n := 13) rfl ?_
      refine z_bipush dX6_letterOfCode_13 (n := 15) rfl (by decide) ?_
      refine z_isub dX6_letterOfCode_15 (n := 16) rfl ?_
      refine z_iconst dX6_letterOfCode_16 (n := 17) rfl ?_
      refine z_callS2i dX6_letterOfCode_17 (n := 20) rfl ms_X6_letterOf lk_X6_255 (zrm (by decide) (by decide)) (Nat.le_of_ble_eq_true rfl) (c_X6_letterOf2 (by omega)) (fun r u hp => ?_)
      obtain ⟨rfl, rfl⟩ := hp
      refine z_ret_i dX6_letterOfCode_20 rfl ?_
      first | exact ⟨by unfold lco; rw [if_pos (by omega)]; omega, rfl⟩ | exact ⟨by unfold lco; rw [if_neg (by omega), if_pos (by omega)], rfl⟩ | exact ⟨by unfold lco; rw [if_neg (by omega), if_neg (by omega)], rfl⟩
set_option maxHeartbeats 4000000 in
theorem c_X6_codeOfLetter {G : zG} {sz : zSz} {ar : zAr} {l : Int} (h0 : 0 ≤ l) (h1 : l < 12)  : zSem G mX6_codeOfLetter 1 [zI l] (X sz ar) (zpi fun r u => r = cdl l ∧ u = X sz ar) := by
  refine z_enter (L' := [some (zI l)]) (by decide +kernel) (Nat.le_of_ble_eq_true rfl) ⟨0, rfl⟩ ?_
  refine z_iload_0 dX6_codeOfLetter_0 (n := 1) rfl ?_
  refine z_callS1i dX6_codeOfLetter_1 (n := 4) rfl ms_X6_isInverse lk_X6_272 (zrm (by decide) (by decide)) (Nat.le_of_ble_eq_true rfl) (c_X6_isInverse (by omega)) (fun r u hp => ?_)
  obtain ⟨rfl, rfl⟩ := hp
  refine z_ifB_eq dX6_codeOfLetter_4 (n := 7) (tg := 12) rfl (by decide) (fun c4 => ?_) (fun c4 => ?_)
  · refine z_bipush dX6_codeOfLetter_12 (n := 14) rfl (by decide) ?_
    refine z_iload_0 dX6_codeOfLetter_14 (n := 15) rfl ?_
    refine z_callS1i dX6_codeOfLetter_15 (n := 18) rfl ms_X6_stateOf lk_X6_252 (zrm (by decide) (by decide)) (Nat.le_of_ble_eq_true rfl) (c_X6_stateOf (by first | assumption | exact ⟨by omega, by omega⟩ | exact zb_zr _)) (fun r u hp => ?_)
    obtain ⟨rfl, rfl⟩ := hp
    refine z_iadd dX6_codeOfLetter_18 (n := 19) rfl ?_
    refine z_ret_i dX6_codeOfLetter_19 rfl ?_
    first | exact ⟨(if_pos (by assumption)).symm, rfl⟩ | exact ⟨(if_neg (by assumption)).symm, rfl⟩
  · refine z_bipush dX6_codeOfLetter_7 (n := 9) rfl (by decide) ?_
    refine z_goto dX6_codeOfLetter_9 (n := 14) (by decide) ?_
    refine z_iload_0 dX6_codeOfLetter_14 (n := 15) rfl ?_
    refine z_callS1i dX6_codeOfLetter_15 (n := 18) rfl ms_X6_stateOf lk_X6_252 (zrm (by decide) (by decide)) (Nat.le_of_ble_eq_true rfl) (c_X6_stateOf (by first | assumption | exact ⟨by omega, by omega⟩ | exact zb_zr _)) (fun r u hp => ?_)
    obtain ⟨rfl, rfl⟩ := hp
    refine z_iadd dX6_codeOfLetter_18 (n := 19) rfl ?_
    refine z_ret_i dX6_codeOfLetter_19 rfl ?_
    first | exact ⟨(if_pos (by assumption)).symm, rfl⟩ | exact ⟨(if_neg (by assumption)).symm, rfl⟩
set_option maxHeartbeats 4000000 in
theorem c_X6_isActing {G : zG} {sz : zSz} {ar : zAr} {w : Int} (hw : zr w) (hn : zr (sz 3 4))  : zSem G mX6_isActing 1 [zR 0, zI w] (X sz ar) (zpi fun r u => r = zb (0 ≤ w ∧ w < 3 ∧ 0 < sz 3 4) ∧ u = X sz ar) := by
  refine z_enter (L' := [some (zR 0), some (zI w)]) (by decide +kernel) (Nat.le_of_ble_eq_true rfl) ⟨0, rfl⟩ ?_
  refine z_iload_1 dX6_isActing_0 (n := 1) rfl ?_
  refine z_callS1i dX6_isActing_1 (n := 4) rfl ms_X6_isWord lk_X6_144 (zrm (by decide) (by decide)) (Nat.le_of_ble_eq_true rfl) (c_X6_isWord (by first | assumption | exact ⟨by omega, by omega⟩ | exact zb_zr _)) (fun r u hp => ?_)
  obtain ⟨rfl, rfl⟩ := hp
  refine z_ifB_eq dX6_isActing_4 (n := 7) (tg := 21) rfl (by decide) (fun c4 => ?_) (fun c4 => ?_)
  · refine z_iconst dX6_isActing_21 (n := 22) rfl ?_
    refine z_ret_z dX6_isActing_22 rfl (by first | exact Or.inl rfl | exact Or.inr rfl | exact zb_or _) ?_
    first | exact ⟨(zb_t (by omega)).symm, rfl⟩ | exact ⟨(zb_f (by omega)).symm, rfl⟩
  · refine z_aload_0 dX6_isActing_7 (n := 8) rfl ?_
    refine z_get dX6_isActing_8 (n := 11) rfl rfl fd_X6_19 rfl ?_
    refine z_callV0i dX6_isActing_11 (n := 14) rfl mv_X3_size lk_X6_98 rfl (zrm (by decide) (by decide)) (Nat.le_of_ble_eq_true rfl) (c_X3_size) (fun r u hp => ?_)
    obtain ⟨rfl, rfl⟩ := hp
    refine z_if_le dX6_isActing_14 (n := 17) (tg := 21) rfl (by decide) (by first | assumption | exact ⟨by omega, by omega⟩ | exact zb_zr _) (fun c14 => ?_) (fun c14 => ?_)
    · refine z_iconst dX6_isActing_21 (n := 22) rfl ?_
      refine z_ret_z dX6_isActing_22 rfl (by first | exact Or.inl rfl | exact Or.inr rfl | exact zb_or _) ?_
      first | exact ⟨(zb_t (by omega)).symm, rfl⟩ | exact ⟨(zb_f (by omega)).symm, rfl⟩
    · refine z_iconst dX6_isActing_17 (n := 18) rfl ?_
      refine z_goto dX6_isActing_18 (n := 22) (by decide) ?_
      refine z_ret_z dX6_isActing_22 rfl (by first | exact Or.inl rfl | exact Or.inr rfl | exact zb_or _) ?_
      first | exact ⟨(zb_t (by omega)).symm, rfl⟩ | exact ⟨(zb_f (by omega)).symm, rfl⟩
set_option maxHeartbeats 4000000 in
theorem c_X6_isRow {G : zG} {sz : zSz} {ar : zAr} {x n m : Int} (hx : zr x) (hn : zr n) (hm0 : 0 ≤ m) (hm1 : m ≤ 12)  : zSem G mX6_isRow 0 [zI x, zI n, zI m] (X sz ar) (zpi fun r u => r = zb (0 ≤ n ∧ n ≤ m ∧ 0 ≤ x ∧ x < 2 ^ n.toNat) ∧ u = X sz ar) := by
  refine z_enter (L' := [some (zI x), some (zI n), some (zI m)]) (by decide +kernel) (Nat.le_of_ble_eq_true rfl) ⟨0, rfl⟩ ?_
  refine z_iload_1 dX6_isRow_0 (n := 1) rfl ?_
  refine z_if_lt dX6_isRow_1 (n := 4) (tg := 24) rfl (by decide) (by first | assumption | exact ⟨by omega, by omega⟩ | exact zb_zr _) (fun c1 => ?_) (fun c1 => ?_)
  · refine z_iconst dX6_isRow_24 (n := 25) rfl ?_
    refine z_ret_z dX6_isRow_25 rfl (by first | exact Or.inl rfl | exact Or.inr rfl | exact zb_or _) ?_
    first | exact ⟨(zb_t (by omega)).symm, rfl⟩ | exact ⟨(zb_f (by omega)).symm, rfl⟩
  · refine z_iload_1 dX6_isRow_4 (n := 5) rfl ?_
    refine z_iload_2 dX6_isRow_5 (n := 6) rfl ?_
    refine z_icmp_gt dX6_isRow_6 (n := 9) (tg := 24) rfl (by decide) (by first | assumption | exact ⟨by omega, by omega⟩ | exact zb_zr _) (by first | assumption | exact ⟨by omega, by omega⟩ | exact zb_zr _) (fun c6 => ?_) (fun c6 => ?_)
    · refine z_iconst dX6_isRow_24 (n := 25) rfl ?_
      refine z_ret_z dX6_isRow_25 rfl (by first | exact Or.inl rfl | exact Or.inr rfl | exact zb_or _) ?_
      first | exact ⟨(zb_t (by omega)).symm, rfl⟩ | exact ⟨(zb_f (by omega)).symm, rfl⟩
    · refine z_iload_0 dX6_isRow_9 (n := 10) rfl ?_
      refine z_if_lt dX6_isRow_10 (n := 13) (tg := 24) rfl (by decide) (by first | assumption | exact ⟨by omega, by omega⟩ | exact zb_zr _) (fun c10 => ?_) (fun c10 => ?_)
      · refine z_iconst dX6_isRow_24 (n := 25) rfl ?_
        refine z_ret_z dX6_isRow_25 rfl (by first | exact Or.inl rfl | exact Or.inr rfl | exact zb_or _) ?_
        first | exact ⟨(zb_t (by omega)).symm, rfl⟩ | exact ⟨(zb_f (by omega)).symm, rfl⟩
      · have hpp := p2_12 n.toNat (by omega)
        have hp0 := p2_pos n.toNat
        refine z_iload_0 dX6_isRow_13 (n := 14) rfl ?_
        refine z_iconst dX6_isRow_14 (n := 15) rfl ?_
        refine z_iload_1 dX6_isRow_15 (n := 16) rfl ?_
        refine z_ishl dX6_isRow_16 (n := 17) rfl (by omega) (by omega) ?_
        rw [Int.one_mul]
        refine z_icmp_ge dX6_isRow_17 (n := 20) (tg := 24) rfl (by decide) (by first | assumption | exact ⟨by omega, by omega⟩ | exact zb_zr _) (by first | assumption | exact ⟨by omega, by omega⟩ | exact zb_zr _) (fun c17 => ?_) (fun c17 => ?_)
        · refine z_iconst dX6_isRow_24 (n := 25) rfl ?_
          refine z_ret_z dX6_isRow_25 rfl (by first | exact Or.inl rfl | exact Or.inr rfl | exact zb_or _) ?_
          first | exact ⟨(zb_t (by omega)).symm, rfl⟩ | exact ⟨(zb_f (by omega)).symm, rfl⟩
        · refine z_iconst dX6_isRow_20 (n := 21) rfl ?_
          refine z_goto dX6_isRow_21 (n := 25) (by decide) ?_
          refine z_ret_z dX6_isRow_25 rfl (by first | exact Or.inl rfl | exact Or.inr rfl | exact zb_or _) ?_
          first | exact ⟨(zb_t (by omega)).symm, rfl⟩ | exact ⟨(zb_f (by omega)).symm, rfl⟩
set_option maxHeartbeats 4000000 in
theorem c_X6_letter {G : zG} {sz : zSz} {ar : zAr} {c : Int} (hc : zr c) (hp0 : 0 ≤ sz 1 1) (hp1 : sz 1 1 ≤ 24)  : zSem G mX6_letter 1 [zR 0, zI c] (X sz ar) (zpi fun r u => (¬ (1 ≤ c ∧ c ≤ 126) ∧ r = -102 ∧ u = X sz ar) ∨ ((1 ≤ c ∧ c ≤ 126) ∧ sz 1 1 < 24 ∧ r = sz 1 1 + 1 ∧ u = X (zz sz 1 1 (sz 1 1 + 1)) (zq ar 2 (zf (ar 2) (sz 1 1) c))) ∨ ((1 ≤ c ∧ c ≤ 126) ∧ 24 ≤ sz 1 1 ∧ r = -104 ∧ u = X sz ar)) := by
  refine z_enter (L' := [some (zR 0), some (zI c)]) (by decide +kernel) (Nat.le_of_ble_eq_true rfl) ⟨0, rfl⟩ ?_
  by_cases hlt : sz 1 1 < 24
  · skip
    refine z_iload_1 dX6_letter_0 (n := 1) rfl ?_
    refine z_iconst dX6_letter_1 (n := 2) rfl ?_
    refine z_icmp_lt dX6_letter_2 (n := 5) (tg := 11) rfl (by decide) (by first | assumption | exact ⟨by omega, by omega⟩ | exact zb_zr _) (by first | assumption | exact ⟨by omega, by omega⟩ | exact zb_zr _) (fun c2 => ?_) (fun c2 => ?_)
    · refine z_bipush dX6_letter_11 (n := 13) rfl (by decide) ?_
      refine z_ret_i dX6_letter_13 rfl ?_
      first | exact Or.inl ⟨by omega, rfl, rfl⟩ | exact Or.inr (Or.inl ⟨by omega, hlt, rfl, rfl⟩)
    · refine z_iload_1 dX6_letter_5 (n := 6) rfl ?_
      refine z_bipush dX6_letter_6 (n := 8) rfl (by decide) ?_
      refine z_icmp_le dX6_letter_8 (n := 11) (tg := 14) rfl (by decide) (by first | assumption | exact ⟨by omega, by omega⟩ | exact zb_zr _) (by first | assumption | exact ⟨by omega, by omega⟩ | exact zb_zr _) (fun c8 => ?_) (fun c8 => ?_)
      · refine z_aload_0 dX6_letter_14 (n := 15) rfl ?_
        refine z_get dX6_letter_15 (n := 18) rfl rfl fd_X6_12 rfl ?_
        refine z_iload_1 dX6_letter_18 (n := 19) rfl ?_
        refine z_callV1i dX6_letter_19 (n := 22) rfl mv_X2_put lk_X6_74 rfl (zrm (by decide) (by decide)) (Nat.le_of_ble_eq_true rfl) (c_X2_put hp0 hp1) (fun r u hp => ?_)
        obtain ⟨rfl, rfl⟩ := hp.1 hlt
        refine z_ifB_eq dX6_letter_22 (n := 25) (tg := 35) rfl (by decide) (fun c22 => ?_) (fun c22 => ?_)
        · exact absurd trivial c22
        · refine z_aload_0 dX6_letter_25 (n := 26) rfl ?_
          refine z_get dX6_letter_26 (n := 29) rfl rfl fd_X6_12 rfl ?_
          refine z_callV0i dX6_letter_29 (n := 32) rfl mv_X2_size lk_X6_78 rfl (zrm (by decide) (by decide)) (Nat.le_of_ble_eq_true rfl) (c_X2_size) (fun r u hp => ?_)
          obtain ⟨rfl, rfl⟩ := hp
          rw [zz_eq]
          refine z_goto dX6_letter_32 (n := 37) (by decide) ?_
          refine z_ret_i dX6_letter_37 rfl ?_
          first | exact Or.inl ⟨by omega, rfl, rfl⟩ | exact Or.inr (Or.inl ⟨by omega, hlt, rfl, rfl⟩)
      · refine z_bipush dX6_letter_11 (n := 13) rfl (by decide) ?_
        refine z_ret_i dX6_letter_13 rfl ?_
        first | exact Or.inl ⟨by omega, rfl, rfl⟩ | exact Or.inr (Or.inl ⟨by omega, hlt, rfl, rfl⟩)
  · skip
    refine z_iload_1 dX6_letter_0 (n := 1) rfl ?_
    refine z_iconst dX6_letter_1 (n := 2) rfl ?_
    refine z_icmp_lt dX6_letter_2 (n := 5) (tg := 11) rfl (by decide) (by first | assumption | exact ⟨by omega, by omega⟩ | exact zb_zr _) (by first | assumption | exact ⟨by omega, by omega⟩ | exact zb_zr _) (fun c2 => ?_) (fun c2 => ?_)
    · refine z_bipush dX6_letter_11 (n := 13) rfl (by decide) ?_
      refine z_ret_i dX6_letter_13 rfl ?_
      first | exact Or.inl ⟨by omega, rfl, rfl⟩ | exact Or.inr (Or.inr ⟨by omega, by omega, rfl, rfl⟩)
    · refine z_iload_1 dX6_letter_5 (n := 6) rfl ?_
      refine z_bipush dX6_letter_6 (n := 8) rfl (by decide) ?_
      refine z_icmp_le dX6_letter_8 (n := 11) (tg := 14) rfl (by decide) (by first | assumption | exact ⟨by omega, by omega⟩ | exact zb_zr _) (by first | assumption | exact ⟨by omega, by omega⟩ | exact zb_zr _) (fun c8 => ?_) (fun c8 => ?_)
      · refine z_aload_0 dX6_letter_14 (n := 15) rfl ?_
        refine z_get dX6_letter_15 (n := 18) rfl rfl fd_X6_12 rfl ?_
        refine z_iload_1 dX6_letter_18 (n := 19) rfl ?_
        refine z_callV1i dX6_letter_19 (n := 22) rfl mv_X2_put lk_X6_74 rfl (zrm (by decide) (by decide)) (Nat.le_of_ble_eq_true rfl) (c_X2_put hp0 hp1) (fun r u hp => ?_)
        obtain ⟨rfl, rfl⟩ := hp.2 (by omega)
        refine z_ifB_eq dX6_letter_22 (n := 25) (tg := 35) rfl (by decide) (fun c22 => ?_) (fun c22 => ?_)
        · refine z_bipush dX6_letter_35 (n := 37) rfl (by decide) ?_
          refine z_ret_i dX6_letter_37 rfl ?_
          first | exact Or.inl ⟨by omega, rfl, rfl⟩ | exact Or.inr (Or.inr ⟨by omega, by omega, rfl, rfl⟩)
        · exact c22.elim
      · refine z_bipush dX6_letter_11 (n := 13) rfl (by decide) ?_
        refine z_ret_i dX6_letter_13 rfl ?_
        first | exact Or.inl ⟨by omega, rfl, rfl⟩ | exact Or.inr (Or.inr ⟨by omega, by omega, rfl, rfl⟩)
set_option maxHeartbeats 4000000 in
theorem c_X6_blank {G : zG} {sz : zSz} {ar : zAr}  : zSem G mX6_blank 1 [zR 0] (X sz ar) (zpi fun r u => r = sz 1 1 ∧ u = X (zz sz 1 1 0) ar) := by
  refine z_enter (L' := [some (zR 0), none]) (by decide +kernel) (Nat.le_of_ble_eq_true rfl) ⟨1, rfl⟩ ?_
  refine z_aload_0 dX6_blank_0 (n := 1) rfl ?_
  refine z_get dX6_blank_1 (n := 4) rfl rfl fd_X6_12 rfl ?_
  refine z_callV0i dX6_blank_4 (n := 7) rfl mv_X2_size lk_X6_78 rfl (zrm (by decide) (by decide)) (Nat.le_of_ble_eq_true rfl) (c_X2_size) (fun r u hp => ?_)
  obtain ⟨rfl, rfl⟩ := hp
  refine z_istore_1 dX6_blank_7 (n := 8) rfl (by decide) (fun w h => by cases h; try rfl) ?_
  refine z_aload_0 dX6_blank_8 (n := 9) rfl ?_
  refine z_get dX6_blank_9 (n := 12) rfl rfl fd_X6_12 rfl ?_
  refine z_callV0v dX6_blank_12 (n := 15) rfl mv_X2_clear lk_X6_82 rfl (zrm (by decide) (by decide)) (Nat.le_of_ble_eq_true rfl) (c_X2_clear) (fun u hp => ?_)
  subst hp
  refine z_iload_1 dX6_blank_15 (n := 16) rfl ?_
  refine z_ret_i dX6_blank_16 rfl ?_
  exact ⟨rfl, rfl⟩
set_option maxHeartbeats 4000000 in
theorem c_X6_fault {G : zG} {sz : zSz} {ar : zAr} (hp0 : 0 ≤ sz 1 1) (hp1 : sz 1 1 ≤ 24) (hc : ∀ i, zr (ar 2 i))  : zSem G mX6_fault 7 [zR 0] (X sz ar) (zpi fun r u => r = ffG (fun i => ¬ fitP i (ar 2 i)) (sz 1 1).toNat 0 ∧ u = X sz ar) := by
  refine z_enter (L' := [some (zR 0)]) (by decide +kernel) (Nat.le_of_ble_eq_true rfl) ⟨0, rfl⟩ ?_
  refine z_aload_0 dX6_fault_0 (n := 1) rfl ?_
  refine z_get dX6_fault_1 (n := 4) rfl rfl fd_X6_12 rfl ?_
  refine z_callV0i dX6_fault_4 (n := 7) rfl mv_X2_firstFault lk_X6_85 rfl (zrm (by decide) (by decide)) (Nat.le_of_ble_eq_true rfl) (c_X2_firstFault (by omega) (by omega) hc) (fun r u hp => ?_)
  obtain ⟨rfl, rfl⟩ := hp
  have hff := ffG_r (fun i => ¬ fitP i (ar 2 i)) (sz 1 1).toNat 0
  refine z_ret_i dX6_fault_7 rfl ?_
  exact ⟨rfl, rfl⟩
/-- a new machine has been read -/
def PM (sz : zSz) (ar : zAr) (q : Int) (u : zS) : Prop := ∃ sz' ar', u = X sz' ar' ∧ sz' 3 4 = q ∧ sz' 1 1 = 0 ∧ sz' 14 1 = 0 ∧ sz' 16 1 = 0 ∧ sz' 18 1 = 0 ∧ sz' 27 1 = 0 ∧ sz' 0 10 = 0 ∧ sz' 0 11 = sz 0 11 + 1 ∧ ar' 4 = rdK (ar 2) q (ar 4) ∧ ar' 5 = rdN (ar 2) q (ar 5) ∧ (∀ j, 0 ≤ j → j < 6 → ar' 28 j = 31) ∧ (∀ j, 18 < j → j ≠ 27 → sz' j = sz j) ∧ sz' 8 = sz 8 ∧ ∀ j, j ≠ 4 → j ≠ 5 → j ≠ 28 → ar' j = ar j
set_option maxHeartbeats 8000000 in
set_option maxHeartbeats 4000000 in
theorem c_X6_machine {G : zG} {sz : zSz} {ar : zAr} (hp0 : 0 ≤ sz 1 1) (hp1 : sz 1 1 ≤ 24) (hc : ∀ i, zr (ar 2 i))  : zSem G mX6_machine 8 [zR 0] (X sz ar) (zpi fun r u => (¬ isM (sz 1 1) (ar 2) ∧ r = -103 ∧ u = X sz ar) ∨ (isM (sz 1 1) (ar 2) ∧ r = (sz 1 1 + 1) / 4 ∧ PM sz ar ((sz 1 1 + 1) / 4) u)) := by
  refine z_enter (L' := [some (zR 0), none]) (by decide +kernel) (Nat.le_of_ble_eq_true rfl) ⟨1, rfl⟩ ?_
  have i14 : isL 14 := by unfold isL; omega
  have i16 : isL 16 := by unfold isL; omega
  have i18 : isL 18 := by unfold isL; omega
  refine z_aload_0 dX6_machine_0 (n := 1) rfl ?_
  refine z_get dX6_machine_1 (n := 4) rfl rfl fd_X6_12 rfl ?_
  refine z_callV0i dX6_machine_4 (n := 7) rfl mv_X2_isMachine lk_X6_88 rfl (zrm (by decide) (by decide)) (Nat.le_of_ble_eq_true rfl) (c_X2_isMachine hp0 hp1 hc) (fun r u hp => ?_)
  obtain ⟨rfl, rfl⟩ := hp
  refine z_ifB_ne dX6_machine_7 (n := 10) (tg := 13) rfl (by decide) (fun c7 => ?_) (fun c7 => ?_)
  · refine z_aload_0 dX6_machine_13 (n := 14) rfl ?_
    refine z_get dX6_machine_14 (n := 17) rfl rfl fd_X6_19 rfl ?_
    refine z_aload_0 dX6_machine_17 (n := 18) rfl ?_
    refine z_get dX6_machine_18 (n := 21) rfl rfl fd_X6_12 rfl ?_
    refine z_callV1v dX6_machine_21 (n := 24) rfl mv_X3_readFrom lk_X6_92 rfl (zrm (by decide) (by decide)) (Nat.le_of_ble_eq_true rfl) (c_X3_readFrom (q := (sz 1 1 + 1) / 4) hc hp0 hp1 (by have := c7.1; omega)) (fun u hp => ?_)
    obtain ⟨ar2, rfl, e4, e5, hF2⟩ := hp
    refine z_aload_0 dX6_machine_24 (n := 25) rfl ?_
    refine z_get dX6_machine_25 (n := 28) rfl rfl fd_X6_12 rfl ?_
    refine z_callV0v dX6_machine_28 (n := 31) rfl mv_X2_clear lk_X6_82 rfl (zrm (by decide) (by decide)) (Nat.le_of_ble_eq_true rfl) (c_X2_clear) (fun u hp => ?_)
    subst hp
    refine z_iconst dX6_machine_31 (n := 32) rfl ?_
    refine z_istore_1 dX6_machine_32 (n := 33) rfl (by decide) (fun w h => by cases h; try rfl) ?_
    refine z_iload_1 dX6_machine_33 (n := 34) rfl ?_
    refine z_iconst dX6_machine_34 (n := 35) rfl ?_
    refine z_icmp_ge dX6_machine_35 (n := 38) (tg := 53) rfl (by decide) (by first | assumption | exact ⟨by omega, by omega⟩ | exact zb_zr _) (by first | assumption | exact ⟨by omega, by omega⟩ | exact zb_zr _) (fun c35 => ?_) (fun c35 => ?_)
    · exfalso; omega
    · refine z_aload_0 dX6_machine_38 (n := 39) rfl ?_
      refine z_get dX6_machine_39 (n := 42) rfl rfl fd_X6_28 rfl ?_
      refine z_iload_1 dX6_machine_42 (n := 43) rfl ?_
      refine z_aald dX6_machine_43 (n := 44) rfl rfl (by omega) (by omega) (by decide) ?_
      refine z_callV0v dX6_machine_44 (n := 47) rfl mv_X1_clear lk_X6_96 (XL1 i14) (zrm (by decide) (by decide)) (Nat.le_of_ble_eq_true rfl) (c_X1_clear i14) (fun u hp => ?_)
      subst hp
      refine z_iinc_1 dX6_machine_47 (n := 50) rfl (by decide) (fun w h => by cases h; try rfl) ?_
      refine z_goto dX6_machine_50 (n := 33) (by decide) ?_
      rw [show (0 : Int) + 1 = 1 from rfl]
      refine z_iload_1 dX6_machine_33 (n := 34) rfl ?_
      refine z_iconst dX6_machine_34 (n := 35) rfl ?_
      refine z_icmp_ge dX6_machine_35 (n := 38) (tg := 53) rfl (by decide) (by first | assumption | exact ⟨by omega, by omega⟩ | exact zb_zr _) (by first | assumption | exact ⟨by omega, by omega⟩ | exact zb_zr _) (fun c35 => ?_) (fun c35 => ?_)
      · exfalso; omega
      · refine z_aload_0 dX6_machine_38 (n := 39) rfl ?_
        refine z_get dX6_machine_39 (n := 42) rfl rfl fd_X6_28 rfl ?_
        refine z_iload_1 dX6_machine_42 (n := 43) rfl ?_
        refine z_aald dX6_machine_43 (n := 44) rfl rfl (by omega) (by omega) (by decide) ?_
        refine z_callV0v dX6_machine_44 (n := 47) rfl mv_X1_clear lk_X6_96 (XL1 i16) (zrm (by decide) (by decide)) (Nat.le_of_ble_eq_true rfl) (c_X1_clear i16) (fun u hp => ?_)
        subst hp
        refine z_iinc_1 dX6_machine_47 (n := 50) rfl (by decide) (fun w h => by cases h; try rfl) ?_
        refine z_goto dX6_machine_50 (n := 33) (by decide) ?_
        rw [show (1 : Int) + 1 = 2 from rfl]
        refine z_iload_1 dX6_machine_33 (n := 34) rfl ?_
        refine z_iconst dX6_machine_34 (n := 35) rfl ?_
        refine z_icmp_ge dX6_machine_35 (n := 38) (tg := 53) rfl (by decide) (by first | assumption | exact ⟨by omega, by omega⟩ | exact zb_zr _) (by first | assumption | exact ⟨by omega, by omega⟩ | exact zb_zr _) (fun c35 => ?_) (fun c35 => ?_)
        · exfalso; omega
        · refine z_aload_0 dX6_machine_38 (n := 39) rfl ?_
          refine z_get dX6_machine_39 (n := 42) rfl rfl fd_X6_28 rfl ?_
          refine z_iload_1 dX6_machine_42 (n := 43) rfl ?_
          refine z_aald dX6_machine_43 (n := 44) rfl rfl (by omega) (by omega) (by decide) ?_
          refine z_callV0v dX6_machine_44 (n := 47) rfl mv_X1_clear lk_X6_96 (XL1 i18) (zrm (by decide) (by decide)) (Nat.le_of_ble_eq_true rfl) (c_X1_clear i18) (fun u hp => ?_)
          subst hp
          refine z_iinc_1 dX6_machine_47 (n := 50) rfl (by decide) (fun w h => by cases h; try rfl) ?_
          refine z_goto dX6_machine_50 (n := 33) (by decide) ?_
          rw [show (2 : Int) + 1 = 3 from rfl]
          refine z_iload_1 dX6_machine_33 (n := 34) rfl ?_
          refine z_iconst dX6_machine_34 (n := 35) rfl ?_
          refine z_icmp_ge dX6_machine_35 (n := 38) (tg := 53) rfl (by decide) (by first | assumption | exact ⟨by omega, by omega⟩ | exact zb_zr _) (by first | assumption | exact ⟨by omega, by omega⟩ | exact zb_zr _) (fun c35 => ?_) (fun c35 => ?_)
          · refine z_aload_0 dX6_machine_53 (n := 54) rfl ?_
            refine z_get dX6_machine_54 (n := 57) rfl rfl fd_X6_41 rfl ?_
            refine z_callV0v dX6_machine_57 (n := 60) rfl mv_X5_clear lk_X6_97 rfl (zrm (by decide) (by decide)) (Nat.le_of_ble_eq_true rfl) (c_X5_clear) (fun u hp => ?_)
            obtain ⟨ar3, rfl, hF3, h28⟩ := hp
            refine z_aload_0 dX6_machine_60 (n := 61) rfl ?_
            refine z_iconst dX6_machine_61 (n := 62) rfl ?_
            refine z_putZX dX6_machine_62 (n := 65) rfl rfl fw_X6_66 (by decide) (by first | decide | simp) rfl ?_
            refine z_aload_0 dX6_machine_65 (n := 66) rfl ?_
            refine z_dup dX6_machine_66 (n := 67) rfl rfl ?_
            refine z_get dX6_machine_67 (n := 70) rfl rfl fd_X6_70 rfl ?_
            refine z_iconst dX6_machine_70 (n := 71) rfl ?_
            refine z_iadd dX6_machine_71 (n := 72) rfl ?_
            refine z_putX dX6_machine_72 (n := 75) rfl rfl fw_X6_70 (by first | decide | simp) rfl ?_
            refine z_aload_0 dX6_machine_75 (n := 76) rfl ?_
            refine z_get dX6_machine_76 (n := 79) rfl rfl fd_X6_19 rfl ?_
            refine z_callV0i dX6_machine_79 (n := 82) rfl mv_X3_size lk_X6_98 rfl (zrm (by decide) (by decide)) (Nat.le_of_ble_eq_true rfl) (c_X3_size) (fun r u hp => ?_)
            obtain ⟨rfl, rfl⟩ := hp
            refine z_ret_i dX6_machine_82 rfl ?_
            refine Or.inr ⟨c7, rfl, _, _, rfl, rfl, rfl, rfl, rfl, rfl, rfl, rfl, rfl, ?_, ?_, h28, ?_, rfl, ?_⟩
            · rw [hF3 4 (by decide)]; exact e4
            · rw [hF3 5 (by decide)]; exact e5
            · intro j a b
              rw [zz_ne (by omega), zz_ne (by omega), zz_ne (by omega), zz_ne (by omega), zz_ne (by omega), zz_ne (by omega), zz_ne (by omega), zz_ne (by omega)]
            · intro j a b d
              rw [hF3 j d]; exact hF2 j a b
          · exfalso; omega
  · refine z_bipush dX6_machine_10 (n := 12) rfl (by decide) ?_
    refine z_ret_i dX6_machine_12 rfl ?_
    exact Or.inl ⟨c7, rfl, rfl⟩
