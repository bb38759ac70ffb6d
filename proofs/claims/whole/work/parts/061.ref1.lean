/-! the reference: words are made -/
set_option maxHeartbeats 4000000 in
theorem c_X7_isWord {G : zG} {sz : zSz} {ar : zAr} {w : Int} (hw : zr w) (hn : zr (sz 41 0))  : zSem G mX7_isWord 1 [zR 41, zI w] (X sz ar) (zpi fun r u => r = zb (0 ≤ w ∧ w < 3 ∧ 0 < sz 41 0) ∧ u = X sz ar) := by
  refine z_enter (L' := [some (zR 41), some (zI w)]) (by decide +kernel) (Nat.le_of_ble_eq_true rfl) ⟨0, rfl⟩ ?_
  refine z_iload_1 dX7_isWord_0 (n := 1) rfl ?_
  refine z_iconst dX7_isWord_1 (n := 2) rfl ?_
  refine z_iconst dX7_isWord_2 (n := 3) rfl ?_
  refine z_callS3i dX7_isWord_3 (n := 6) rfl ms_X7_within lk_X7_69 (zrm (by decide) (by decide)) (Nat.le_of_ble_eq_true rfl) (c_X7_within (by first | assumption | exact ⟨by omega, by omega⟩ | exact zb_zr _) (by first | assumption | exact ⟨by omega, by omega⟩ | exact zb_zr _) (by first | assumption | exact ⟨by omega, by omega⟩ | exact zb_zr _)) (fun r u hp => ?_)
  obtain ⟨rfl, rfl⟩ := hp
  refine z_ifB_eq dX7_isWord_6 (n := 9) (tg := 20) rfl (by decide) (fun c6 => ?_) (fun c6 => ?_)
  · refine z_iconst dX7_isWord_20 (n := 21) rfl ?_
    refine z_ret_z dX7_isWord_21 rfl (by first | exact Or.inl rfl | exact Or.inr rfl | exact zb_or _) ?_
    first | exact ⟨(zb_t (by omega)).symm, rfl⟩ | exact ⟨(zb_f (by omega)).symm, rfl⟩
  · refine z_aload_0 dX7_isWord_9 (n := 10) rfl ?_
    refine z_get dX7_isWord_10 (n := 13) rfl rfl fd_X7_96 rfl ?_
    refine z_if_le dX7_isWord_13 (n := 16) (tg := 20) rfl (by decide) (by first | assumption | exact ⟨by omega, by omega⟩ | exact zb_zr _) (fun c13 => ?_) (fun c13 => ?_)
    · refine z_iconst dX7_isWord_20 (n := 21) rfl ?_
      refine z_ret_z dX7_isWord_21 rfl (by first | exact Or.inl rfl | exact Or.inr rfl | exact zb_or _) ?_
      first | exact ⟨(zb_t (by omega)).symm, rfl⟩ | exact ⟨(zb_f (by omega)).symm, rfl⟩
    · refine z_iconst dX7_isWord_16 (n := 17) rfl ?_
      refine z_goto dX7_isWord_17 (n := 21) (by decide) ?_
      refine z_ret_z dX7_isWord_21 rfl (by first | exact Or.inl rfl | exact Or.inr rfl | exact zb_or _) ?_
      first | exact ⟨(zb_t (by omega)).symm, rfl⟩ | exact ⟨(zb_f (by omega)).symm, rfl⟩
def lcR (n c : Int) : Int := if 97 ≤ c ∧ c ≤ 97 + n - 1 then 2 * (c - 97) else if 65 ≤ c ∧ c ≤ 65 + n - 1 then 2 * (c - 65) + 1 else -1
theorem lcR_r {n c : Int} (h0 : 0 ≤ n) (h6 : n ≤ 6) : -1 ≤ lcR n c ∧ lcR n c < 2 * n := by
  unfold lcR
  split
  · omega
  · split <;> omega
theorem lcR_lco {n c : Int} (h0 : 0 ≤ n) (h6 : n ≤ 6) : (lcR n c ≠ -1 ↔ 0 ≤ lco c / 2 ∧ lco c / 2 < n) ∧ (lcR n c ≠ -1 → lcR n c = lco c) := by
  unfold lcR lco
  by_cases a : 97 ≤ c ∧ c < 103
  · rw [if_pos a]
    by_cases b : 97 ≤ c ∧ c ≤ 97 + n - 1
    · rw [if_pos b]; omega
    · rw [if_neg b, if_neg (by omega)]; omega
  · rw [if_neg a, if_neg (show ¬ (97 ≤ c ∧ c ≤ 97 + n - 1) by omega)]
    by_cases b : 65 ≤ c ∧ c < 71
    · rw [if_pos b]
      by_cases d : 65 ≤ c ∧ c ≤ 65 + n - 1
      · rw [if_pos d]; omega
      · rw [if_neg d]; omega
    · rw [if_neg b, if_neg (show ¬ (65 ≤ c ∧ c ≤ 65 + n - 1) by omega)]; omega
set_option maxHeartbeats 4000000 in
theorem c_X7_letterOf {G : zG} {sz : zSz} {ar : zAr} {c : Int} (hc : 0 ≤ c ∧ c ≤ 126) (hn0 : 0 ≤ sz 41 0) (hn1 : sz 41 0 ≤ 6)  : zSem G mX7_letterOf 1 [zR 41, zI c] (X sz ar) (zpi fun r u => r = lcR (sz 41 0) c ∧ u = X sz ar) := by
  refine z_enter (L' := [some (zR 41), some (zI c)]) (by decide +kernel) (Nat.le_of_ble_eq_true rfl) ⟨0, rfl⟩ ?_
  refine z_iload_1 dX7_letterOf_0 (n := 1) rfl ?_
  refine z_bipush dX7_letterOf_1 (n := 3) rfl (by decide) ?_
  refine z_bipush dX7_letterOf_3 (n := 5) rfl (by decide) ?_
  refine z_aload_0 dX7_letterOf_5 (n := 6) rfl ?_
  refine z_get dX7_letterOf_6 (n := 9) rfl rfl fd_X7_96 rfl ?_
  refine z_iadd dX7_letterOf_9 (n := 10) rfl ?_
  refine z_iconst dX7_letterOf_10 (n := 11) rfl ?_
  refine z_isub dX7_letterOf_11 (n := 12) rfl ?_
  refine z_callS3i dX7_letterOf_12 (n := 15) rfl ms_X7_within lk_X7_69 (zrm (by decide) (by decide)) (Nat.le_of_ble_eq_true rfl) (c_X7_within (by first | assumption | exact ⟨by omega, by omega⟩ | exact zb_zr _) (by first | assumption | exact ⟨by omega, by omega⟩ | exact zb_zr _) (by first | assumption | exact ⟨by omega, by omega⟩ | exact zb_zr _)) (fun r u hp => ?_)
  obtain ⟨rfl, rfl⟩ := hp
  refine z_ifB_eq dX7_letterOf_15 (n := 18) (tg := 25) rfl (by decide) (fun c15 => ?_) (fun c15 => ?_)
  · refine z_iload_1 dX7_letterOf_25 (n := 26) rfl ?_
    refine z_bipush dX7_letterOf_26 (n := 28) rfl (by decide) ?_
    refine z_bipush dX7_letterOf_28 (n := 30) rfl (by decide) ?_
    refine z_aload_0 dX7_letterOf_30 (n := 31) rfl ?_
    refine z_get dX7_letterOf_31 (n := 34) rfl rfl fd_X7_96 rfl ?_
    refine z_iadd dX7_letterOf_34 (n := 35) rfl ?_
    refine z_iconst dX7_letterOf_35 (n := 36) rfl ?_
    refine z_isub dX7_letterOf_36 (n := 37) rfl ?_
    refine z_callS3i dX7_letterOf_37 (n := 40) rfl ms_X7_within lk_X7_69 (zrm (by decide) (by decide)) (Nat.le_of_ble_eq_true rfl) (c_X7_within (by first | assumption | exact ⟨by omega, by omega⟩ | exact zb_zr _) (by first | assumption | exact ⟨by omega, by omega⟩ | exact zb_zr _) (by first | assumption | exact ⟨by omega, by omega⟩ | exact zb_zr _)) (fun r u hp => ?_)
    obtain ⟨rfl, rfl⟩ := hp
    refine z_ifB_eq dX7_letterOf_40 (n := 43) (tg := 54) rfl (by decide) (fun c40 => ?_) (fun c40 => ?_)
    · rw [show lcR (sz 41 0) c = -1 by rw [lcR, if_neg c15, if_neg c40]]
      refine z_iconst dX7_letterOf_54 (n := 55) rfl ?_
      refine z_ret_i dX7_letterOf_55 rfl ?_
      exact ⟨rfl, rfl⟩
    · rw [show lcR (sz 41 0) c = 2 * (c - 65) + 1 by rw [lcR, if_neg c15, if_pos c40]]
      refine z_iconst dX7_letterOf_43 (n := 44) rfl ?_
      refine z_iload_1 dX7_letterOf_44 (n := 45) rfl ?_
      refine z_bipush dX7_letterOf_45 (n := 47) rfl (by decide) ?_
      refine z_isub dX7_letterOf_47 (n := 48) rfl ?_
      refine z_imul dX7_letterOf_48 (n := 49) rfl ?_
      refine z_iconst dX7_letterOf_49 (n := 50) rfl ?_
      refine z_iadd dX7_letterOf_50 (n := 51) rfl ?_
      refine z_goto dX7_letterOf_51 (n := 55) (by decide) ?_
      refine z_ret_i dX7_letterOf_55 rfl ?_
      exact ⟨rfl, rfl⟩
  · refine z_iconst dX7_letterOf_18 (n := 19) rfl ?_
    refine z_iload_1 dX7_letterOf_19 (n := 20) rfl ?_
    refine z_bipush dX7_letterOf_20 (n := 22) rfl (by decide) ?_
    refine z_isub dX7_letterOf_22 (n := 23) rfl ?_
    refine z_imul dX7_letterOf_23 (n := 24) rfl ?_
    refine z_ret_i dX7_letterOf_24 rfl ?_
    exact ⟨by rw [lcR, if_pos c15], rfl⟩
/-- only what is being made has changed -/
def Fm (sz : zSz) (ar : zAr) (sz' : zSz) (ar' : zAr) : Prop := (∀ j, j ≠ 41 → sz' j = sz j) ∧ (∀ i, i ≠ 12 → sz' 41 i = sz 41 i) ∧ ∀ j, j ≠ 50 → ar' j = ar j
theorem Fm.rf {sz : zSz} {ar : zAr} : Fm sz ar sz ar := ⟨fun _ _ => rfl, fun _ _ => rfl, fun _ _ => rfl⟩
theorem Fm.tr {sz sz' sz'' : zSz} {ar ar' ar'' : zAr} (h : Fm sz ar sz' ar') (h2 : Fm sz' ar' sz'' ar'') : Fm sz ar sz'' ar'' := ⟨fun j a => (h2.1 j a).trans (h.1 j a), fun i a => (h2.2.1 i a).trans (h.2.1 i a), fun j a => (h2.2.2 j a).trans (h.2.2 j a)⟩
theorem Fm.z {sz : zSz} {ar : zAr} (x : Int) : Fm sz ar (zz sz 41 12 x) ar := ⟨fun j hj => zz_ne hj, fun i hi => zz_ni hi, fun _ _ => rfl⟩
theorem Fm.q {sz : zSz} {ar : zAr} (x : Int) (f : Int → Int) : Fm sz ar (zz sz 41 12 x) (zq ar 50 f) := ⟨fun j hj => zz_ne hj, fun i hi => zz_ni hi, fun j hj => zq_ne hj⟩
def zMP (xs : List Int) (sz : zSz) (ar : zAr) (u : zS) : Prop := ∃ sz' ar', u = X sz' ar' ∧ LR (sz' 41 12) (ar' 50) xs ∧ Fm sz ar sz' ar'
set_option maxHeartbeats 4000000 in
theorem c_X7_begin {G : zG} {sz : zSz} {ar : zAr}  : zSem G mX7_begin 0 [zR 41] (X sz ar) (zpv fun u => zMP [] sz ar u) := by
  refine z_enter (L' := [some (zR 41)]) (by decide +kernel) (Nat.le_of_ble_eq_true rfl) ⟨0, rfl⟩ ?_
  refine z_aload_0 dX7_begin_0 (n := 1) rfl ?_
  refine z_iconst dX7_begin_1 (n := 2) rfl ?_
  refine z_putX dX7_begin_2 (n := 5) rfl rfl fw_X7_105 (by first | decide | simp) rfl ?_
  refine z_ret_v dX7_begin_5 rfl ?_
  exact ⟨_, _, rfl, by rw [zz_eq]; exact LR.nil, Fm.z 0⟩
set_option maxHeartbeats 4000000 in
theorem c_X7_comes {G : zG} {sz : zSz} {ar : zAr} {l : Int} {xs : List Int} (h0 : 0 ≤ l) (h1 : l < 12) (hL : LR (sz 41 12) (ar 50) xs) (hx : Ls xs) (hs : xs.length < 128)  : zSem G mX7_comes 0 [zR 41, zI l] (X sz ar) (zpv fun u => zMP (red xs l) sz ar u) := by
  refine z_enter (L' := [some (zR 41), some (zI l)]) (by decide +kernel) (Nat.le_of_ble_eq_true rfl) ⟨0, rfl⟩ ?_
  have hn := hL.1
  refine z_aload_0 dX7_comes_0 (n := 1) rfl ?_
  refine z_get dX7_comes_1 (n := 4) rfl rfl fd_X7_105 rfl ?_
  refine z_if_le dX7_comes_4 (n := 7) (tg := 37) rfl (by decide) (by first | assumption | exact ⟨by omega, by omega⟩ | exact zb_zr _) (fun c4 => ?_) (fun c4 => ?_)
  · have hrd : LR (sz 41 12 + 1) (zf (ar 50) (sz 41 12) l) (red xs l) := hL.red2 (Or.inl (by omega))
    refine z_wkv (P := fun u => u = X (zz sz 41 12 (sz 41 12 + 1)) (zq ar 50 (zf (ar 50) (sz 41 12) l))) ?_ (fun v hv => ⟨_, _, hv, by rw [zz_eq, zq_eq]; exact hrd, Fm.q _ _⟩)
    refine z_aload_0 dX7_comes_37 (n := 38) rfl ?_
    refine z_get dX7_comes_38 (n := 41) rfl rfl fd_X7_35 rfl ?_
    refine z_aload_0 dX7_comes_41 (n := 42) rfl ?_
    refine z_get dX7_comes_42 (n := 45) rfl rfl fd_X7_105 rfl ?_
    refine z_iload_1 dX7_comes_45 (n := 46) rfl ?_
    refine z_iastX dX7_comes_46 (n := 47) rfl rfl (by omega) (by omega) (by decide) rfl ?_
    refine z_aload_0 dX7_comes_47 (n := 48) rfl ?_
    refine z_dup dX7_comes_48 (n := 49) rfl rfl ?_
    refine z_get dX7_comes_49 (n := 52) rfl rfl fd_X7_105 rfl ?_
    refine z_iconst dX7_comes_52 (n := 53) rfl ?_
    refine z_iadd dX7_comes_53 (n := 54) rfl ?_
    refine z_putX dX7_comes_54 (n := 57) rfl rfl fw_X7_105 (by first | decide | simp) rfl ?_
    refine z_ret_v dX7_comes_57 rfl ?_
    rfl
  · have hy := hx _ (hL.mem (i := sz 41 12 - 1) (by omega) (by omega))
    have hir : zr (zxor (ar 50 (sz 41 12 - 1)) 1) := by
      have a := inv_lt (n := 6) hy.1 (by omega)
      have b := inv_0 hy.1
      unfold inv at a b
      exact ⟨by omega, by omega⟩
    refine z_aload_0 dX7_comes_7 (n := 8) rfl ?_
    refine z_get dX7_comes_8 (n := 11) rfl rfl fd_X7_35 rfl ?_
    refine z_aload_0 dX7_comes_11 (n := 12) rfl ?_
    refine z_get dX7_comes_12 (n := 15) rfl rfl fd_X7_105 rfl ?_
    refine z_iconst dX7_comes_15 (n := 16) rfl ?_
    refine z_isub dX7_comes_16 (n := 17) rfl ?_
    refine z_iald dX7_comes_17 (n := 18) rfl rfl (by omega) (by omega) (by decide) ?_
    refine z_iconst dX7_comes_18 (n := 19) rfl ?_
    refine z_ixor dX7_comes_19 (n := 20) rfl (by omega) (by omega) ?_
    refine z_iload_1 dX7_comes_20 (n := 21) rfl ?_
    refine z_icmp_ne dX7_comes_21 (n := 24) (tg := 37) rfl (by decide) (by first | assumption | exact ⟨by omega, by omega⟩ | exact zb_zr _) (by first | assumption | exact ⟨by omega, by omega⟩ | exact zb_zr _) (fun c21 => ?_) (fun c21 => ?_)
    · have hrd : LR (sz 41 12 + 1) (zf (ar 50) (sz 41 12) l) (red xs l) := hL.red2 (Or.inr (fun z => c21 ((inv_iff hy.1 h0).mp z)))
      refine z_wkv (P := fun u => u = X (zz sz 41 12 (sz 41 12 + 1)) (zq ar 50 (zf (ar 50) (sz 41 12) l))) ?_ (fun v hv => ⟨_, _, hv, by rw [zz_eq, zq_eq]; exact hrd, Fm.q _ _⟩)
      refine z_aload_0 dX7_comes_37 (n := 38) rfl ?_
      refine z_get dX7_comes_38 (n := 41) rfl rfl fd_X7_35 rfl ?_
      refine z_aload_0 dX7_comes_41 (n := 42) rfl ?_
      refine z_get dX7_comes_42 (n := 45) rfl rfl fd_X7_105 rfl ?_
      refine z_iload_1 dX7_comes_45 (n := 46) rfl ?_
      refine z_iastX dX7_comes_46 (n := 47) rfl rfl (by omega) (by omega) (by decide) rfl ?_
      refine z_aload_0 dX7_comes_47 (n := 48) rfl ?_
      refine z_dup dX7_comes_48 (n := 49) rfl rfl ?_
      refine z_get dX7_comes_49 (n := 52) rfl rfl fd_X7_105 rfl ?_
      refine z_iconst dX7_comes_52 (n := 53) rfl ?_
      refine z_iadd dX7_comes_53 (n := 54) rfl ?_
      refine z_putX dX7_comes_54 (n := 57) rfl rfl fw_X7_105 (by first | decide | simp) rfl ?_
      refine z_ret_v dX7_comes_57 rfl ?_
      rfl
    · have hrd : LR (sz 41 12 - 1) (ar 50) (red xs l) := hL.red1 (by omega) ((inv_iff hy.1 h0).mpr c21)
      refine z_wkv (P := fun u => u = X (zz sz 41 12 (sz 41 12 - 1)) ar) ?_ (fun v hv => ⟨_, _, hv, by rw [zz_eq]; exact hrd, Fm.z _⟩)
      refine z_aload_0 dX7_comes_24 (n := 25) rfl ?_
      refine z_dup dX7_comes_25 (n := 26) rfl rfl ?_
      refine z_get dX7_comes_26 (n := 29) rfl rfl fd_X7_105 rfl ?_
      refine z_iconst dX7_comes_29 (n := 30) rfl ?_
      refine z_isub dX7_comes_30 (n := 31) rfl ?_
      refine z_putX dX7_comes_31 (n := 34) rfl rfl fw_X7_105 (by first | decide | simp) rfl ?_
      refine z_goto dX7_comes_34 (n := 57) (by decide) ?_
      refine z_ret_v dX7_comes_57 rfl ?_
      rfl
set_option maxHeartbeats 4000000 in
theorem lo_X7_comesWord {G : zG} {sz : zSz} {ar : zAr} {w : Int} {ys : List Int} (hw0 : 0 ≤ w) (hw1 : w < 3) (hY : LR (ar 44 w) (fun k => ar 45 (16 * w + k)) ys) (hy : Ls ys) (hyc : ys.length ≤ 16) :
    ∀ (rest pre acc : List Int) (sz' : zSz) (ar' : zAr), ys = pre ++ rest → LR (sz' 41 12) (ar' 50) acc → Ls acc → acc.length + rest.length ≤ 128 → Fm sz ar sz' ar' →
    zWP G mX7_comesWord 1 (zpv (zMP (rest.foldl red acc) sz ar)) 2 [some (zR 41), some (zI w), some (zI pre.length)] [] (X sz' ar') := by
  have hn := hY.1
  intro rest
  induction rest with
  | nil =>
    intro pre acc sz' ar' e hL hA hcap hF
    have el : ys.length = pre.length := by rw [e]; simp
    have e44 : ar' 44 = ar 44 := hF.2.2 44 (by decide)
    refine z_iload_2 dX7_comesWord_2 (n := 3) rfl ?_
    refine z_aload_0 dX7_comesWord_3 (n := 4) rfl ?_
    refine z_get dX7_comesWord_4 (n := 7) rfl rfl fd_X7_16 rfl ?_
    refine z_iload_1 dX7_comesWord_7 (n := 8) rfl ?_
    refine z_iald dX7_comesWord_8 (n := 9) rfl rfl (by omega) (by omega) (by decide) ?_
    rw [e44]
    refine z_icmp_ge dX7_comesWord_9 (n := 12) (tg := 33) rfl (by decide) (by first | assumption | exact ⟨by omega, by omega⟩ | exact zb_zr _) (by first | assumption | exact ⟨by omega, by omega⟩ | exact zb_zr _) (fun c9 => ?_) (fun c9 => ?_)
    · refine z_ret_v dX7_comesWord_33 rfl ?_
      exact ⟨_, _, rfl, hL, hF⟩
    · exfalso; omega
  | cons a t ih =>
    intro pre acc sz' ar' e hL hA hcap hF
    have el : ys.length = pre.length + (t.length + 1) := by rw [e]; simp
    have ha := hy a (by rw [e]; simp)
    have hla := red_len acc a
    have e44 : ar' 44 = ar 44 := hF.2.2 44 (by decide)
    have e45 : ar' 45 = ar 45 := hF.2.2 45 (by decide)
    have hm : ar 45 (16 * w + pre.length) = a := LR.mid (t := t) (n := ar 44 w) (f := fun k => ar 45 (16 * w + k)) (by rw [← e]; exact hY)
    simp only [List.length_cons] at hcap
    refine z_iload_2 dX7_comesWord_2 (n := 3) rfl ?_
    refine z_aload_0 dX7_comesWord_3 (n := 4) rfl ?_
    refine z_get dX7_comesWord_4 (n := 7) rfl rfl fd_X7_16 rfl ?_
    refine z_iload_1 dX7_comesWord_7 (n := 8) rfl ?_
    refine z_iald dX7_comesWord_8 (n := 9) rfl rfl (by omega) (by omega) (by decide) ?_
    rw [e44]
    refine z_icmp_ge dX7_comesWord_9 (n := 12) (tg := 33) rfl (by decide) (by first | assumption | exact ⟨by omega, by omega⟩ | exact zb_zr _) (by first | assumption | exact ⟨by omega, by omega⟩ | exact zb_zr _) (fun c9 => ?_) (fun c9 => ?_)
    · exfalso; omega
    · refine z_aload_0 dX7_comesWord_12 (n := 13) rfl ?_
      refine z_aload_0 dX7_comesWord_13 (n := 14) rfl ?_
      refine z_get dX7_comesWord_14 (n := 17) rfl rfl fd_X7_19 rfl ?_
      refine z_bipush dX7_comesWord_17 (n := 19) rfl (by decide) ?_
      refine z_iload_1 dX7_comesWord_19 (n := 20) rfl ?_
      refine z_imul dX7_comesWord_20 (n := 21) rfl ?_
      refine z_iload_2 dX7_comesWord_21 (n := 22) rfl ?_
      refine z_iadd dX7_comesWord_22 (n := 23) rfl ?_
      refine z_iald dX7_comesWord_23 (n := 24) rfl rfl (by omega) (by omega) (by decide) ?_
      rw [e45, hm]
      refine z_callV1v dX7_comesWord_24 (n := 27) rfl mv_X7_comes lk_X7_108 rfl (zrm (by decide) (by decide)) (Nat.le_of_ble_eq_true rfl) (c_X7_comes ha.1 ha.2 hL hA (by omega)) (fun u hp => ?_)
      obtain ⟨sz2, ar2, rfl, hL2, hF2⟩ := hp
      refine z_iinc_2 dX7_comesWord_27 (n := 30) rfl (by decide) (fun w h => by cases h; try rfl) ?_
      refine z_goto dX7_comesWord_30 (n := 2) (by decide) ?_
      have h9 := ih (pre ++ [a]) (red acc a) sz2 ar2 (by rw [e]; simp) hL2 (hA.rd ha.1 ha.2) (by omega) (hF.tr hF2)
      rw [show ((pre ++ [a]).length : Int) = (pre.length : Int) + 1 by simp] at h9
      exact h9
set_option maxHeartbeats 4000000 in
theorem c_X7_comesWord {G : zG} {sz : zSz} {ar : zAr} {w : Int} {xs ys : List Int} (hw0 : 0 ≤ w) (hw1 : w < 3) (hY : LR (ar 44 w) (fun k => ar 45 (16 * w + k)) ys) (hy : Ls ys) (hyc : ys.length ≤ 16) (hL : LR (sz 41 12) (ar 50) xs) (hx : Ls xs) (hs : xs.length + ys.length ≤ 128)  : zSem G mX7_comesWord 1 [zR 41, zI w] (X sz ar) (zpv fun u => zMP (ys.foldl red xs) sz ar u) := by
  refine z_enter (L' := [some (zR 41), some (zI w), none]) (by decide +kernel) (Nat.le_of_ble_eq_true rfl) ⟨1, rfl⟩ ?_
  refine z_iconst dX7_comesWord_0 (n := 1) rfl ?_
  refine z_istore_2 dX7_comesWord_1 (n := 2) rfl (by decide) (fun w h => by cases h; try rfl) ?_
  exact lo_X7_comesWord hw0 hw1 hY hy hyc ys [] xs sz ar rfl hL hx hs Fm.rf
set_option maxHeartbeats 4000000 in
theorem lo_X7_comesInverse {G : zG} {sz : zSz} {ar : zAr} {w : Int} {ys : List Int} (hw0 : 0 ≤ w) (hw1 : w < 3) (hY : LR (ar 44 w) (fun k => ar 45 (16 * w + k)) ys) (hy : Ls ys) (hyc : ys.length ≤ 16) :
    ∀ (m : Nat) (pre suf acc : List Int) (sz' : zSz) (ar' : zAr), ys = pre ++ suf → pre.length = m → LR (sz' 41 12) (ar' 50) acc → Ls acc → acc.length + pre.length ≤ 128 → Fm sz ar sz' ar' →
    zWP G mX7_comesInverse 1 (zpv (zMP ((undone pre).foldl red acc) sz ar)) 9 [some (zR 41), some (zI w), some (zI (m - 1))] [] (X sz' ar') := by
  have hn := hY.1
  intro m
  induction m with
  | zero =>
    intro pre suf acc sz' ar' e hm hL hA hcap hF
    have hp : pre = [] := List.length_eq_zero_iff.mp hm
    subst hp
    refine z_iload_2 dX7_comesInverse_9 (n := 10) rfl ?_
    refine z_if_lt dX7_comesInverse_10 (n := 13) (tg := 36) rfl (by decide) (by first | assumption | exact ⟨by omega, by omega⟩ | exact zb_zr _) (fun c10 => ?_) (fun c10 => ?_)
    · refine z_ret_v dX7_comesInverse_36 rfl ?_
      exact ⟨_, _, rfl, hL, hF⟩
    · exfalso; omega
  | succ m ih =>
    intro pre suf acc sz' ar' e hm hL hA hcap hF
    obtain ⟨p2, a, rfl⟩ : ∃ p2 a, pre = p2 ++ [a] := ⟨pre.dropLast, pre.getLast (by intro z; rw [z] at hm; cases hm), (List.dropLast_concat_getLast _).symm⟩
    have hm2 : p2.length = m := by simpa using hm
    have el : ys.length = p2.length + (suf.length + 1) := by rw [e]; simp
    have ha := hy a (by rw [e]; simp)
    have hi := inv_lt (n := 6) ha.1 (by omega)
    have hi0 := inv_0 ha.1
    have hla := red_len acc (inv a)
    have e45 : ar' 45 = ar 45 := hF.2.2 45 (by decide)
    have hm3 : ar 45 (16 * w + m) = a := by rw [← hm2]; exact LR.mid (t := suf) (n := ar 44 w) (f := fun k => ar 45 (16 * w + k)) (by rw [e, List.append_assoc] at hY; exact hY)
    have e1 : ((m + 1 : Nat) : Int) - 1 = m := by omega
    rw [e1, undone_cons, List.foldl_cons]
    simp only [List.length_append, List.length_cons, List.length_nil] at hcap
    refine z_iload_2 dX7_comesInverse_9 (n := 10) rfl ?_
    refine z_if_lt dX7_comesInverse_10 (n := 13) (tg := 36) rfl (by decide) (by first | assumption | exact ⟨by omega, by omega⟩ | exact zb_zr _) (fun c10 => ?_) (fun c10 => ?_)
    · exfalso; omega
    · refine z_aload_0 dX7_comesInverse_13 (n := 14) rfl ?_
      refine z_aload_0 dX7_comesInverse_14 (n := 15) rfl ?_
      refine z_get dX7_comesInverse_15 (n := 18) rfl rfl fd_X7_19 rfl ?_
      refine z_bipush dX7_comesInverse_18 (n := 20) rfl (by decide) ?_
      refine z_iload_1 dX7_comesInverse_20 (n := 21) rfl ?_
      refine z_imul dX7_comesInverse_21 (n := 22) rfl ?_
      refine z_iload_2 dX7_comesInverse_22 (n := 23) rfl ?_
      refine z_iadd dX7_comesInverse_23 (n := 24) rfl ?_
      refine z_iald dX7_comesInverse_24 (n := 25) rfl rfl (by omega) (by omega) (by decide) ?_
      rw [e45, hm3]
      refine z_iconst dX7_comesInverse_25 (n := 26) rfl ?_
      refine z_ixor dX7_comesInverse_26 (n := 27) rfl (by omega) (by omega) ?_
      rw [show zxor a 1 = inv a from rfl]
      refine z_callV1v dX7_comesInverse_27 (n := 30) rfl mv_X7_comes lk_X7_108 rfl (zrm (by decide) (by decide)) (Nat.le_of_ble_eq_true rfl) (c_X7_comes hi0 (by omega) hL hA (by omega)) (fun u hp => ?_)
      obtain ⟨sz2, ar2, rfl, hL2, hF2⟩ := hp
      refine z_iinc_2 dX7_comesInverse_30 (n := 33) rfl (by decide) (fun w h => by cases h; try rfl) ?_
      refine z_goto dX7_comesInverse_33 (n := 9) (by decide) ?_
      exact ih p2 (a :: suf) (red acc (inv a)) sz2 ar2 (by rw [e]; simp) hm2 hL2 (hA.rd hi0 (by omega)) (by omega) (hF.tr hF2)
set_option maxHeartbeats 4000000 in
theorem c_X7_comesInverse {G : zG} {sz : zSz} {ar : zAr} {w : Int} {xs ys : List Int} (hw0 : 0 ≤ w) (hw1 : w < 3) (hY : LR (ar 44 w) (fun k => ar 45 (16 * w + k)) ys) (hy : Ls ys) (hyc : ys.length ≤ 16) (hL : LR (sz 41 12) (ar 50) xs) (hx : Ls xs) (hs : xs.length + ys.length ≤ 128)  : zSem G mX7_comesInverse 1 [zR 41, zI w] (X sz ar) (zpv fun u => zMP ((undone ys).foldl red xs) sz ar u) := by
  refine z_enter (L' := [some (zR 41), some (zI w), none]) (by decide +kernel) (Nat.le_of_ble_eq_true rfl) ⟨1, rfl⟩ ?_
  refine z_aload_0 dX7_comesInverse_0 (n := 1) rfl ?_
  refine z_get dX7_comesInverse_1 (n := 4) rfl rfl fd_X7_16 rfl ?_
  refine z_iload_1 dX7_comesInverse_4 (n := 5) rfl ?_
  refine z_iald dX7_comesInverse_5 (n := 6) rfl rfl (by omega) (by omega) (by decide) ?_
  refine z_iconst dX7_comesInverse_6 (n := 7) rfl ?_
  refine z_isub dX7_comesInverse_7 (n := 8) rfl ?_
  refine z_istore_2 dX7_comesInverse_8 (n := 9) rfl (by decide) (fun w h => by cases h; try rfl) ?_
  rw [hY.1]
  exact lo_X7_comesInverse hw0 hw1 hY hy hyc ys.length ys [] xs sz ar (by simp) rfl hL hx hs Fm.rf
/-- behind it the word w is xs; else only the words' rows have changed -/
def PK (w : Int) (xs : List Int) (ar ar' : zAr) : Prop := LR (ar' 44 w) (fun k => ar' 45 (16 * w + k)) xs ∧ (∀ v, v ≠ w → ar' 44 v = ar 44 v) ∧ (∀ j, ¬ (16 * w ≤ j ∧ j < 16 * w + 16) → ar' 45 j = ar 45 j) ∧ ∀ j, j ≠ 44 → j ≠ 45 → ar' j = ar j
set_option maxHeartbeats 4000000 in
theorem c_X7_keepMade {G : zG} {sz : zSz} {ar : zAr} {w : Int} {xs : List Int} (hw0 : 0 ≤ w) (hw1 : w < 3) (hL : LR (sz 41 12) (ar 50) xs) (hs : xs.length ≤ 16)  : zSem G mX7_keepMade 0 [zR 41, zI w] (X sz ar) (zpi fun r u => r = xs.length ∧ ∃ ar', u = X sz ar' ∧ PK w xs ar ar') := by
  refine z_enter (L' := [some (zR 41), some (zI w), none]) (by decide +kernel) (Nat.le_of_ble_eq_true rfl) ⟨1, rfl⟩ ?_
  have hn := hL.1
  have HO : ∀ (m k : Nat) (ar' : zAr), k + m = xs.length → ar' 44 w = xs.length → (∀ v, v ≠ w → ar' 44 v = ar 44 v) → (∀ j : Int, 0 ≤ j → j < k → ar' 45 (16 * w + j) = ar 50 j) → (∀ j, ¬ (16 * w ≤ j ∧ j < 16 * w + 16) → ar' 45 j = ar 45 j) → (∀ j, j ≠ 44 → j ≠ 45 → ar' j = ar j) → zWP G mX7_keepMade 0 (zpi fun r u => r = xs.length ∧ ∃ ar', u = X sz ar' ∧ PK w xs ar ar') 12 [some (zR 41), some (zI w), some (zI k)] [] (X sz ar') := by
    intro m
    induction m with
    | zero =>
      intro k ar' hk h1 h2 h3 h4 h5
      refine z_iload_2 dX7_keepMade_12 (n := 13) rfl ?_
      refine z_aload_0 dX7_keepMade_13 (n := 14) rfl ?_
      refine z_get dX7_keepMade_14 (n := 17) rfl rfl fd_X7_105 rfl ?_
      refine z_icmp_ge dX7_keepMade_17 (n := 20) (tg := 43) rfl (by decide) (by first | assumption | exact ⟨by omega, by omega⟩ | exact zb_zr _) (by first | assumption | exact ⟨by omega, by omega⟩ | exact zb_zr _) (fun c17 => ?_) (fun c17 => ?_)
      · refine z_aload_0 dX7_keepMade_43 (n := 44) rfl ?_
        refine z_get dX7_keepMade_44 (n := 47) rfl rfl fd_X7_105 rfl ?_
        refine z_ret_i dX7_keepMade_47 rfl ?_
        exact ⟨hn, _, rfl, ⟨h1, fun i hi => by show ar' 45 (16 * w + i) = _; rw [h3 i (by omega) (by omega)]; exact hL.2 i hi⟩, h2, h4, h5⟩
      · exfalso; omega
    | succ m ih =>
      intro k ar' hk h1 h2 h3 h4 h5
      have e50 : ar' 50 = ar 50 := h5 50 (by decide) (by decide)
      have h9 := ih (k + 1) (zq ar' 45 (zf (ar' 45) (16 * w + k) (ar 50 k))) (by omega) h1 h2 (fun j a b => by rw [zq_eq]; by_cases e : j = k; (rw [e, zf_eq]); (rw [zf_ne (by omega)]; exact h3 j a (by omega))) (fun j a => by rw [zq_eq, zf_ne (by omega)]; exact h4 j a) (fun j a b => (zq_ne b).trans (h5 j a b))
      rw [show ((k + 1 : Nat) : Int) = (k : Int) + 1 by omega] at h9
      refine z_iload_2 dX7_keepMade_12 (n := 13) rfl ?_
      refine z_aload_0 dX7_keepMade_13 (n := 14) rfl ?_
      refine z_get dX7_keepMade_14 (n := 17) rfl rfl fd_X7_105 rfl ?_
      refine z_icmp_ge dX7_keepMade_17 (n := 20) (tg := 43) rfl (by decide) (by first | assumption | exact ⟨by omega, by omega⟩ | exact zb_zr _) (by first | assumption | exact ⟨by omega, by omega⟩ | exact zb_zr _) (fun c17 => ?_) (fun c17 => ?_)
      · exfalso; omega
      · refine z_aload_0 dX7_keepMade_20 (n := 21) rfl ?_
        refine z_get dX7_keepMade_21 (n := 24) rfl rfl fd_X7_19 rfl ?_
        refine z_bipush dX7_keepMade_24 (n := 26) rfl (by decide) ?_
        refine z_iload_1 dX7_keepMade_26 (n := 27) rfl ?_
        refine z_imul dX7_keepMade_27 (n := 28) rfl ?_
        refine z_iload_2 dX7_keepMade_28 (n := 29) rfl ?_
        refine z_iadd dX7_keepMade_29 (n := 30) rfl ?_
        refine z_aload_0 dX7_keepMade_30 (n := 31) rfl ?_
        refine z_get dX7_keepMade_31 (n := 34) rfl rfl fd_X7_35 rfl ?_
        refine z_iload_2 dX7_keepMade_34 (n := 35) rfl ?_
        refine z_iald dX7_keepMade_35 (n := 36) rfl rfl (by omega) (by omega) (by decide) ?_
        rw [e50]
        refine z_iastX dX7_keepMade_36 (n := 37) rfl rfl (by omega) (by omega) (by decide) rfl ?_
        refine z_iinc_2 dX7_keepMade_37 (n := 40) rfl (by decide) (fun w h => by cases h; try rfl) ?_
        refine z_goto dX7_keepMade_40 (n := 12) (by decide) ?_
        exact h9
  refine z_aload_0 dX7_keepMade_0 (n := 1) rfl ?_
  refine z_get dX7_keepMade_1 (n := 4) rfl rfl fd_X7_16 rfl ?_
  refine z_iload_1 dX7_keepMade_4 (n := 5) rfl ?_
  refine z_aload_0 dX7_keepMade_5 (n := 6) rfl ?_
  refine z_get dX7_keepMade_6 (n := 9) rfl rfl fd_X7_105 rfl ?_
  refine z_iastX dX7_keepMade_9 (n := 10) rfl rfl (by omega) (by omega) (by decide) rfl ?_
  refine z_iconst dX7_keepMade_10 (n := 11) rfl ?_
  refine z_istore_2 dX7_keepMade_11 (n := 12) rfl (by decide) (fun w h => by cases h; try rfl) ?_
  refine HO xs.length 0 _ (by omega) ?_ ?_ (fun j a b => by omega) (fun j _ => rfl) (fun j a b => zq_ne a)
  · rw [zq_eq, zf_eq]; exact hn
  · intro v hv; rw [zq_eq, zf_ne hv]
