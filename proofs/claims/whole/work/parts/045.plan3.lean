/-! Plan: states that are alike; copies -/
theorem same_congr {n : Int} {kd nx ls ls' : Int → Int} (hM : MOK n kd nx) (h : ∀ j, 0 ≤ j → j ≤ 6 → ls j = ls' j) (i j : Int) : same n kd nx ls i j ↔ same n kd nx ls' i j := by
  unfold same
  rw [h _ (nb6_r hM i 0).1 (nb6_r hM i 0).2, h _ (nb6_r hM j 0).1 (nb6_r hM j 0).2, h _ (nb6_r hM i 1).1 (nb6_r hM i 1).2, h _ (nb6_r hM j 1).1 (nb6_r hM j 1).2]
set_option maxHeartbeats 4000000 in
theorem c_X3_leastBehind {G : zG} {sz : zSz} {ar : zAr} {s b : Int} (hs : zr s) (hb0 : 0 ≤ b) (hb1 : b ≤ 1) (hM : MOK (sz 3 4) (ar 4) (ar 5))  : zSem G mX3_leastBehind 1 [zR 3, zI s, zI b] (X sz ar) (zpi fun r u => r = ar 6 (nb6 (sz 3 4) (ar 4) (ar 5) s b) ∧ u = X sz ar) := by
  refine z_enter (L' := [some (zR 3), some (zI s), some (zI b), none]) (by decide +kernel) (Nat.le_of_ble_eq_true rfl) ⟨1, rfl⟩ ?_
  have hn := hM.1
  have hn6 := hM.2.1
  have hg : -1 ≤ g1 (sz 3 4) (ar 4) (ar 5) s b ∧ g1 (sz 3 4) (ar 4) (ar 5) s b < 6 := by
    unfold g1
    split
    · rename_i hh
      have := hM.go hh.1 hh.2 hb0 hb1
      omega
    · omega
  refine z_aload_0 dX3_leastBehind_0 (n := 1) rfl ?_
  refine z_iload_1 dX3_leastBehind_1 (n := 2) rfl ?_
  refine z_iload_2 dX3_leastBehind_2 (n := 3) rfl ?_
  refine z_callV2i dX3_leastBehind_3 (n := 6) rfl mv_X3_goesOn lk_X3_71 rfl (zrm (by decide) (by decide)) (Nat.le_of_ble_eq_true rfl) (c_X3_goesOn (by first | assumption | exact ⟨by omega, by omega⟩ | exact zb_zr _) (by omega) hM) (fun r u hp => ?_)
  obtain ⟨rfl, rfl⟩ := hp
  rw [show (if 0 ≤ s ∧ s < sz 3 4 then gon (ar 4) (ar 5) s b else -1) = g1 (sz 3 4) (ar 4) (ar 5) s b from rfl]
  refine z_istore_3 dX3_leastBehind_6 (n := 7) rfl (by decide) (fun w h => by cases h; try rfl) ?_
  refine z_aload_0 dX3_leastBehind_7 (n := 8) rfl ?_
  refine z_get dX3_leastBehind_8 (n := 11) rfl rfl fd_X3_18 rfl ?_
  refine z_aload_0 dX3_leastBehind_11 (n := 12) rfl ?_
  refine z_iload_3 dX3_leastBehind_12 (n := 13) rfl ?_
  refine z_callV1i dX3_leastBehind_13 (n := 16) rfl mv_X3_has lk_X3_61 rfl (zrm (by decide) (by decide)) (Nat.le_of_ble_eq_true rfl) (c_X3_has (by first | assumption | exact ⟨by omega, by omega⟩ | exact zb_zr _) (by first | assumption | exact ⟨by omega, by omega⟩ | exact zb_zr _)) (fun r u hp => ?_)
  obtain ⟨rfl, rfl⟩ := hp
  refine z_ifB_eq dX3_leastBehind_16 (n := 19) (tg := 23) rfl (by decide) (fun c16 => ?_) (fun c16 => ?_)
  · refine z_bipush dX3_leastBehind_23 (n := 25) rfl (by decide) ?_
    refine z_iald dX3_leastBehind_25 (n := 26) rfl rfl (by omega) (by omega) (by decide) ?_
    refine z_ret_i dX3_leastBehind_26 rfl ?_
    first | exact ⟨by rw [show nb6 (sz 3 4) (ar 4) (ar 5) s b = g1 (sz 3 4) (ar 4) (ar 5) s b from if_pos c16], rfl⟩ | exact ⟨by rw [show nb6 (sz 3 4) (ar 4) (ar 5) s b = 6 from if_neg c16], rfl⟩
  · refine z_iload_3 dX3_leastBehind_19 (n := 20) rfl ?_
    refine z_goto dX3_leastBehind_20 (n := 25) (by decide) ?_
    refine z_iald dX3_leastBehind_25 (n := 26) rfl rfl (by omega) (by omega) (by decide) ?_
    refine z_ret_i dX3_leastBehind_26 rfl ?_
    first | exact ⟨by rw [show nb6 (sz 3 4) (ar 4) (ar 5) s b = g1 (sz 3 4) (ar 4) (ar 5) s b from if_pos c16], rfl⟩ | exact ⟨by rw [show nb6 (sz 3 4) (ar 4) (ar 5) s b = 6 from if_neg c16], rfl⟩
set_option maxHeartbeats 4000000 in
theorem c_X3_leastThatSeemsAlike {G : zG} {sz : zSz} {ar : zAr} {s : Int} (h0 : 0 ≤ s) (h1 : s ≤ 6) (hM : MOK (sz 3 4) (ar 4) (ar 5)) (hl : ∀ j, 0 ≤ j → j ≤ 6 → zr (ar 6 j))  : zSem G mX3_leastThatSeemsAlike 2 [zR 3, zI s] (X sz ar) (zpi fun r u => r = ffG (same (sz 3 4) (ar 4) (ar 5) (ar 6) s) s.toNat 0 ∧ u = X sz ar) := by
  refine z_enter (L' := [some (zR 3), some (zI s), none]) (by decide +kernel) (Nat.le_of_ble_eq_true rfl) ⟨1, rfl⟩ ?_
  have hn := hM.1
  have hn6 := hM.2.1
  have hz : ∀ i b, zr (ar 6 (nb6 (sz 3 4) (ar 4) (ar 5) i b)) := fun i b => hl _ (nb6_r hM i b).1 (nb6_r hM i b).2
  have HO : ∀ (m : Nat) (j : Int), 0 ≤ j → j + m = s → zWP G mX3_leastThatSeemsAlike 2 (zpi fun r u => r = ffG (same (sz 3 4) (ar 4) (ar 5) (ar 6) s) m j ∧ u = X sz ar) 2 [some (zR 3), some (zI s), some (zI j)] [] (X sz ar) := by
    intro m
    induction m with
    | zero =>
      intro j hj0 hj
      have ej : j = s := by omega
      subst ej
      refine z_iload_2 dX3_leastThatSeemsAlike_2 (n := 3) rfl ?_
      refine z_iload_1 dX3_leastThatSeemsAlike_3 (n := 4) rfl ?_
      refine z_icmp_ge dX3_leastThatSeemsAlike_4 (n := 7) (tg := 58) rfl (by decide) (by first | assumption | exact ⟨by omega, by omega⟩ | exact zb_zr _) (by first | assumption | exact ⟨by omega, by omega⟩ | exact zb_zr _) (fun c4 => ?_) (fun c4 => ?_)
      · refine z_iload_1 dX3_leastThatSeemsAlike_58 (n := 59) rfl ?_
        refine z_ret_i dX3_leastThatSeemsAlike_59 rfl ?_
        exact ⟨rfl, rfl⟩
      · exfalso; omega
    | succ m ih =>
      intro j hj0 hj
      have h9 := ih (j + 1) (by omega) (by omega)
      refine z_iload_2 dX3_leastThatSeemsAlike_2 (n := 3) rfl ?_
      refine z_iload_1 dX3_leastThatSeemsAlike_3 (n := 4) rfl ?_
      refine z_icmp_ge dX3_leastThatSeemsAlike_4 (n := 7) (tg := 58) rfl (by decide) (by first | exact hz _ _ | assumption | exact ⟨by omega, by omega⟩ | exact zb_zr _) (by first | exact hz _ _ | assumption | exact ⟨by omega, by omega⟩ | exact zb_zr _) (fun c4 => ?_) (fun c4 => ?_)
      · exfalso; omega
      · refine z_aload_0 dX3_leastThatSeemsAlike_7 (n := 8) rfl ?_
        refine z_iload_1 dX3_leastThatSeemsAlike_8 (n := 9) rfl ?_
        refine z_callV1i dX3_leastThatSeemsAlike_9 (n := 12) rfl mv_X3_flipsFirst lk_X3_86 rfl (zrm (by decide) (by decide)) (Nat.le_of_ble_eq_true rfl) (c_X3_flipsFirst (by first | exact hz _ _ | assumption | exact ⟨by omega, by omega⟩ | exact zb_zr _) hM) (fun r u hp => ?_)
        obtain ⟨rfl, rfl⟩ := hp
        refine z_aload_0 dX3_leastThatSeemsAlike_12 (n := 13) rfl ?_
        refine z_iload_2 dX3_leastThatSeemsAlike_13 (n := 14) rfl ?_
        refine z_callV1i dX3_leastThatSeemsAlike_14 (n := 17) rfl mv_X3_flipsFirst lk_X3_86 rfl (zrm (by decide) (by decide)) (Nat.le_of_ble_eq_true rfl) (c_X3_flipsFirst (by first | exact hz _ _ | assumption | exact ⟨by omega, by omega⟩ | exact zb_zr _) hM) (fun r u hp => ?_)
        obtain ⟨rfl, rfl⟩ := hp
        refine z_icmp_ne dX3_leastThatSeemsAlike_17 (n := 20) (tg := 52) rfl (by decide) (by first | exact hz _ _ | assumption | exact ⟨by omega, by omega⟩ | exact zb_zr _) (by first | exact hz _ _ | assumption | exact ⟨by omega, by omega⟩ | exact zb_zr _) (fun c17 => ?_) (fun c17 => ?_)
        · refine z_iinc_2 dX3_leastThatSeemsAlike_52 (n := 55) rfl (by decide) (fun w h => by cases h; try rfl) ?_
          refine z_goto dX3_leastThatSeemsAlike_55 (n := 2) (by decide) ?_
          rw [ffG_f (fun z => by first | exact c17 (zb_inj.mpr z.1) | exact c32 z.2.1 | exact c47 z.2.2)]
          exact h9
        · refine z_aload_0 dX3_leastThatSeemsAlike_20 (n := 21) rfl ?_
          refine z_iload_1 dX3_leastThatSeemsAlike_21 (n := 22) rfl ?_
          refine z_iconst dX3_leastThatSeemsAlike_22 (n := 23) rfl ?_
          refine z_callV2i dX3_leastThatSeemsAlike_23 (n := 26) rfl mv_X3_leastBehind lk_X3_89 rfl (zrm (by decide) (by decide)) (Nat.le_of_ble_eq_true rfl) (c_X3_leastBehind (by first | exact hz _ _ | assumption | exact ⟨by omega, by omega⟩ | exact zb_zr _) (by omega) (by omega) hM) (fun r u hp => ?_)
          obtain ⟨rfl, rfl⟩ := hp
          refine z_aload_0 dX3_leastThatSeemsAlike_26 (n := 27) rfl ?_
          refine z_iload_2 dX3_leastThatSeemsAlike_27 (n := 28) rfl ?_
          refine z_iconst dX3_leastThatSeemsAlike_28 (n := 29) rfl ?_
          refine z_callV2i dX3_leastThatSeemsAlike_29 (n := 32) rfl mv_X3_leastBehind lk_X3_89 rfl (zrm (by decide) (by decide)) (Nat.le_of_ble_eq_true rfl) (c_X3_leastBehind (by first | exact hz _ _ | assumption | exact ⟨by omega, by omega⟩ | exact zb_zr _) (by omega) (by omega) hM) (fun r u hp => ?_)
          obtain ⟨rfl, rfl⟩ := hp
          refine z_icmp_ne dX3_leastThatSeemsAlike_32 (n := 35) (tg := 52) rfl (by decide) (by first | exact hz _ _ | assumption | exact ⟨by omega, by omega⟩ | exact zb_zr _) (by first | exact hz _ _ | assumption | exact ⟨by omega, by omega⟩ | exact zb_zr _) (fun c32 => ?_) (fun c32 => ?_)
          · refine z_iinc_2 dX3_leastThatSeemsAlike_52 (n := 55) rfl (by decide) (fun w h => by cases h; try rfl) ?_
            refine z_goto dX3_leastThatSeemsAlike_55 (n := 2) (by decide) ?_
            rw [ffG_f (fun z => by first | exact c17 (zb_inj.mpr z.1) | exact c32 z.2.1 | exact c47 z.2.2)]
            exact h9
          · refine z_aload_0 dX3_leastThatSeemsAlike_35 (n := 36) rfl ?_
            refine z_iload_1 dX3_leastThatSeemsAlike_36 (n := 37) rfl ?_
            refine z_iconst dX3_leastThatSeemsAlike_37 (n := 38) rfl ?_
            refine z_callV2i dX3_leastThatSeemsAlike_38 (n := 41) rfl mv_X3_leastBehind lk_X3_89 rfl (zrm (by decide) (by decide)) (Nat.le_of_ble_eq_true rfl) (c_X3_leastBehind (by first | exact hz _ _ | assumption | exact ⟨by omega, by omega⟩ | exact zb_zr _) (by omega) (by omega) hM) (fun r u hp => ?_)
            obtain ⟨rfl, rfl⟩ := hp
            refine z_aload_0 dX3_leastThatSeemsAlike_41 (n := 42) rfl ?_
            refine z_iload_2 dX3_leastThatSeemsAlike_42 (n := 43) rfl ?_
            refine z_iconst dX3_leastThatSeemsAlike_43 (n := 44) rfl ?_
            refine z_callV2i dX3_leastThatSeemsAlike_44 (n := 47) rfl mv_X3_leastBehind lk_X3_89 rfl (zrm (by decide) (by decide)) (Nat.le_of_ble_eq_true rfl) (c_X3_leastBehind (by first | exact hz _ _ | assumption | exact ⟨by omega, by omega⟩ | exact zb_zr _) (by omega) (by omega) hM) (fun r u hp => ?_)
            obtain ⟨rfl, rfl⟩ := hp
            refine z_icmp_ne dX3_leastThatSeemsAlike_47 (n := 50) (tg := 52) rfl (by decide) (by first | exact hz _ _ | assumption | exact ⟨by omega, by omega⟩ | exact zb_zr _) (by first | exact hz _ _ | assumption | exact ⟨by omega, by omega⟩ | exact zb_zr _) (fun c47 => ?_) (fun c47 => ?_)
            · refine z_iinc_2 dX3_leastThatSeemsAlike_52 (n := 55) rfl (by decide) (fun w h => by cases h; try rfl) ?_
              refine z_goto dX3_leastThatSeemsAlike_55 (n := 2) (by decide) ?_
              rw [ffG_f (fun z => by first | exact c17 (zb_inj.mpr z.1) | exact c32 z.2.1 | exact c47 z.2.2)]
              exact h9
            · refine z_iload_2 dX3_leastThatSeemsAlike_50 (n := 51) rfl ?_
              refine z_ret_i dX3_leastThatSeemsAlike_51 rfl ?_
              exact ⟨(ffG_t ⟨zb_inj.mp c17, c32, c47⟩).symm, rfl⟩
  refine z_iconst dX3_leastThatSeemsAlike_0 (n := 1) rfl ?_
  refine z_istore_2 dX3_leastThatSeemsAlike_1 (n := 2) rfl (by decide) (fun w h => by cases h; try rfl) ?_
  exact HO s.toNat 0 (by omega) (by omega)
/-- only least and finer have changed -/
def Fa (ar ar' : zAr) : Prop := ∀ j, j ≠ 6 → j ≠ 7 → ar' j = ar j
theorem Fa.rf {ar : zAr} : Fa ar ar := fun _ _ _ => rfl
theorem Fa.s6 {ar ar' : zAr} (h : Fa ar ar') (f : Int → Int) : Fa ar (zq ar' 6 f) := fun j h1 h2 => (zq_ne h1).trans (h j h1 h2)
theorem Fa.s7 {ar ar' : zAr} (h : Fa ar ar') (f : Int → Int) : Fa ar (zq ar' 7 f) := fun j h1 h2 => (zq_ne h2).trans (h j h1 h2)
def Pa (n : Int) (sz : zSz) (ar : zAr) (u : zS) : Prop := ∃ ar', u = X sz ar' ∧ (∀ j, 0 ≤ j → j ≤ 6 → ar' 6 j = zLS n (ar 4) (ar 5) 7 j) ∧ Fa ar ar'
set_option maxHeartbeats 4000000 in
theorem l1_X3_findAlike {G : zG} {sz : zSz} {ar : zAr} {r : Nat} (hr : r < 7) (hM : MOK (sz 3 4) (ar 4) (ar 5)) {P : Option zV → zS → Prop}
    (K : ∀ ar', Fa ar ar' → (∀ j, 0 ≤ j → j ≤ 6 → ar' 7 j = zLS (sz 3 4) (ar 4) (ar 5) (r + 1) j) → zWP G mX3_findAlike 3 P 54 [some (zR 3), some (zI r), some (zI 7)] [] (X sz ar')) :
    ∀ (m o : Nat) (ar' : zAr), o + m = 7 → Fa ar ar' → (∀ j, 0 ≤ j → j ≤ 6 → ar' 6 j = zLS (sz 3 4) (ar 4) (ar 5) r j) → (∀ j : Int, 0 ≤ j → j < o → ar' 7 j = zLS (sz 3 4) (ar 4) (ar 5) (r + 1) j) → zWP G mX3_findAlike 3 P 31 [some (zR 3), some (zI r), some (zI o)] [] (X sz ar') := by
  have hn := hM.1
  have hn6 := hM.2.1
  intro m
  induction m with
  | zero =>
    intro o ar' ho hF h6 h7
    have eo : o = 7 := by omega
    subst eo
    refine z_iload_2 dX3_findAlike_31 (n := 32) rfl ?_
    refine z_bipush dX3_findAlike_32 (n := 34) rfl (by decide) ?_
    refine z_icmp_gt dX3_findAlike_34 (n := 37) (tg := 54) rfl (by decide) (by first | assumption | exact ⟨by omega, by omega⟩ | exact zb_zr _) (by first | assumption | exact ⟨by omega, by omega⟩ | exact zb_zr _) (fun c34 => ?_) (fun c34 => ?_)
    · exact K ar' hF (fun j a b => h7 j a (by omega))
    · exfalso; omega
  | succ m ih =>
    intro o ar' ho hF h6 h7
    have e4 := hF 4 (by decide) (by decide)
    have e5 := hF 5 (by decide) (by decide)
    have hM' : MOK (sz 3 4) (ar' 4) (ar' 5) := by rw [e4, e5]; exact hM
    have hl : ∀ j, 0 ≤ j → j ≤ 6 → zr (ar' 6 j) := fun j a b => by
      rw [h6 j a b]
      have := zLS_r (sz 3 4) (ar 4) (ar 5) r a
      exact ⟨by omega, by omega⟩
    have hv : ffG (same (sz 3 4) (ar' 4) (ar' 5) (ar' 6) o) (o : Int).toNat 0 = zLS (sz 3 4) (ar 4) (ar 5) (r + 1) o := by
      rw [e4, e5]
      exact ffG_eq (fun i _ _ => same_congr hM h6 o i)
    refine z_iload_2 dX3_findAlike_31 (n := 32) rfl ?_
    refine z_bipush dX3_findAlike_32 (n := 34) rfl (by decide) ?_
    refine z_icmp_gt dX3_findAlike_34 (n := 37) (tg := 54) rfl (by decide) (by first | assumption | exact ⟨by omega, by omega⟩ | exact zb_zr _) (by first | assumption | exact ⟨by omega, by omega⟩ | exact zb_zr _) (fun c34 => ?_) (fun c34 => ?_)
    · exfalso; omega
    · refine z_aload_0 dX3_findAlike_37 (n := 38) rfl ?_
      refine z_get dX3_findAlike_38 (n := 41) rfl rfl fd_X3_21 rfl ?_
      refine z_iload_2 dX3_findAlike_41 (n := 42) rfl ?_
      refine z_aload_0 dX3_findAlike_42 (n := 43) rfl ?_
      refine z_iload_2 dX3_findAlike_43 (n := 44) rfl ?_
      refine z_callV1i dX3_findAlike_44 (n := 47) rfl mv_X3_leastThatSeemsAlike lk_X3_83 rfl (zrm (by decide) (by decide)) (Nat.le_of_ble_eq_true rfl) (c_X3_leastThatSeemsAlike (by omega) (by omega) hM' hl) (fun r u hp => ?_)
      obtain ⟨rfl, rfl⟩ := hp
      rw [hv]
      refine z_iastX dX3_findAlike_47 (n := 48) rfl rfl (by omega) (by omega) (by decide) rfl ?_
      refine z_iinc_2 dX3_findAlike_48 (n := 51) rfl (by decide) (fun w h => by cases h; try rfl) ?_
      refine z_goto dX3_findAlike_51 (n := 31) (by decide) ?_
      have h9 := ih (o + 1) _ (by omega) (hF.s7 (zf (ar' 7) o (zLS (sz 3 4) (ar 4) (ar 5) (r + 1) o))) (fun j a b => by rw [zq_ne (by decide)]; exact h6 j a b) (fun j a b => by rw [zq_eq]; by_cases e : j = o; (rw [e, zf_eq]); (rw [zf_ne e]; exact h7 j a (by omega)))
      rw [show ((o + 1 : Nat) : Int) = (o : Int) + 1 by omega] at h9
      exact h9
set_option maxHeartbeats 4000000 in
theorem l2_X3_findAlike {G : zG} {sz : zSz} {ar : zAr} (hM : MOK (sz 3 4) (ar 4) (ar 5)) :
    ∀ (m r : Nat) (ar' : zAr) (y : Option zV), r + m = 7 → Fa ar ar' → (∀ j, 0 ≤ j → j ≤ 6 → ar' 6 j = zLS (sz 3 4) (ar 4) (ar 5) r j) → zWP G mX3_findAlike 3 (zpv (Pa (sz 3 4) sz ar)) 23 [some (zR 3), some (zI r), y] [] (X sz ar') := by
  intro m
  induction m with
  | zero =>
    intro r ar' y hr hF h6
    have er : r = 7 := by omega
    subst er
    refine z_iload_1 dX3_findAlike_23 (n := 24) rfl ?_
    refine z_bipush dX3_findAlike_24 (n := 26) rfl (by decide) ?_
    refine z_icmp_gt dX3_findAlike_26 (n := 29) (tg := 75) rfl (by decide) (by first | assumption | exact ⟨by omega, by omega⟩ | exact zb_zr _) (by first | assumption | exact ⟨by omega, by omega⟩ | exact zb_zr _) (fun c26 => ?_) (fun c26 => ?_)
    · refine z_ret_v dX3_findAlike_75 rfl ?_
      exact ⟨_, rfl, h6, hF⟩
    · exfalso; omega
  | succ m ih =>
    intro r ar' y hr hF h6
    refine z_iload_1 dX3_findAlike_23 (n := 24) rfl ?_
    refine z_bipush dX3_findAlike_24 (n := 26) rfl (by decide) ?_
    refine z_icmp_gt dX3_findAlike_26 (n := 29) (tg := 75) rfl (by decide) (by first | assumption | exact ⟨by omega, by omega⟩ | exact zb_zr _) (by first | assumption | exact ⟨by omega, by omega⟩ | exact zb_zr _) (fun c26 => ?_) (fun c26 => ?_)
    · exfalso; omega
    · refine z_iconst dX3_findAlike_29 (n := 30) rfl ?_
      refine z_istore_2 dX3_findAlike_30 (n := 31) rfl (by decide) (fun w h => by cases h; try rfl) ?_
      refine l1_X3_findAlike (by omega) hM ?_ 7 0 ar' (by omega) hF h6 (fun j a b => by omega)
      intro ar2 hF2 h72
      refine z_aload_0 dX3_findAlike_54 (n := 55) rfl ?_
      refine z_get dX3_findAlike_55 (n := 58) rfl rfl fd_X3_21 rfl ?_
      refine z_iconst dX3_findAlike_58 (n := 59) rfl ?_
      refine z_aload_0 dX3_findAlike_59 (n := 60) rfl ?_
      refine z_get dX3_findAlike_60 (n := 63) rfl rfl fd_X3_18 rfl ?_
      refine z_iconst dX3_findAlike_63 (n := 64) rfl ?_
      refine z_bipush dX3_findAlike_64 (n := 66) rfl (by decide) ?_
      refine z_acopy dX3_findAlike_66 (n := 69) rfl ac_X3_55 rfl rfl (fun _ => rfl) (by omega) (by omega) (by omega) (by omega) (by omega) (by decide) (by decide) (Nat.le_of_ble_eq_true rfl) ?_
      refine z_iinc_1 dX3_findAlike_69 (n := 72) rfl (by decide) (fun w h => by cases h; try rfl) ?_
      refine z_goto dX3_findAlike_72 (n := 23) (by decide) ?_
      have h9 := ih (r + 1) _ (some (zI 7)) (by omega) (hF2.s6 (zcp (ar2 7) (ar2 6) 0 0 7)) (fun j a b => by rw [zq_eq]; unfold zcp; rw [if_pos (by omega), show (0 : Int) + (j - 0) = j by omega]; exact h72 j a b)
      rw [show ((r + 1 : Nat) : Int) = (r : Int) + 1 by omega] at h9
      exact h9
set_option maxHeartbeats 4000000 in
theorem c_X3_findAlike {G : zG} {sz : zSz} {ar : zAr} (hM : MOK (sz 3 4) (ar 4) (ar 5))  : zSem G mX3_findAlike 3 [zR 3] (X sz ar) (zpv fun u => Pa (sz 3 4) sz ar u) := by
  refine z_enter (L' := [some (zR 3), none, none]) (by decide +kernel) (Nat.le_of_ble_eq_true rfl) ⟨2, rfl⟩ ?_
  have HO : ∀ (m i : Nat) (ar' : zAr), i + m = 7 → Fa ar ar' → (∀ j : Int, 0 ≤ j → j < i → ar' 6 j = 0) → zWP G mX3_findAlike 3 (zpv (Pa (sz 3 4) sz ar)) 2 [some (zR 3), some (zI i), none] [] (X sz ar') := by
    intro m
    induction m with
    | zero =>
      intro i ar' hi hF h6
      have ei : i = 7 := by omega
      subst ei
      refine z_iload_1 dX3_findAlike_2 (n := 3) rfl ?_
      refine z_bipush dX3_findAlike_3 (n := 5) rfl (by decide) ?_
      refine z_icmp_gt dX3_findAlike_5 (n := 8) (tg := 21) rfl (by decide) (by first | assumption | exact ⟨by omega, by omega⟩ | exact zb_zr _) (by first | assumption | exact ⟨by omega, by omega⟩ | exact zb_zr _) (fun c5 => ?_) (fun c5 => ?_)
      · refine z_iconst dX3_findAlike_21 (n := 22) rfl ?_
        refine z_istore_1 dX3_findAlike_22 (n := 23) rfl (by decide) (fun w h => by cases h; try rfl) ?_
        exact l2_X3_findAlike hM 7 0 ar' none (by omega) hF (fun j a b => h6 j a (by omega))
      · exfalso; omega
    | succ m ih =>
      intro i ar' hi hF h6
      refine z_iload_1 dX3_findAlike_2 (n := 3) rfl ?_
      refine z_bipush dX3_findAlike_3 (n := 5) rfl (by decide) ?_
      refine z_icmp_gt dX3_findAlike_5 (n := 8) (tg := 21) rfl (by decide) (by first | assumption | exact ⟨by omega, by omega⟩ | exact zb_zr _) (by first | assumption | exact ⟨by omega, by omega⟩ | exact zb_zr _) (fun c5 => ?_) (fun c5 => ?_)
      · exfalso; omega
      · refine z_aload_0 dX3_findAlike_8 (n := 9) rfl ?_
        refine z_get dX3_findAlike_9 (n := 12) rfl rfl fd_X3_18 rfl ?_
        refine z_iload_1 dX3_findAlike_12 (n := 13) rfl ?_
        refine z_iconst dX3_findAlike_13 (n := 14) rfl ?_
        refine z_iastX dX3_findAlike_14 (n := 15) rfl rfl (by omega) (by omega) (by decide) rfl ?_
        refine z_iinc_1 dX3_findAlike_15 (n := 18) rfl (by decide) (fun w h => by cases h; try rfl) ?_
        refine z_goto dX3_findAlike_18 (n := 2) (by decide) ?_
        have h9 := ih (i + 1) _ (by omega) (hF.s6 (zf (ar' 6) i 0)) (fun j a b => by rw [zq_eq]; by_cases e : j = i; (rw [e, zf_eq]); (rw [zf_ne e]; exact h6 j a (by omega)))
        rw [show ((i + 1 : Nat) : Int) = (i : Int) + 1 by omega] at h9
        exact h9
  refine z_iconst dX3_findAlike_0 (n := 1) rfl ?_
  refine z_istore_1 dX3_findAlike_1 (n := 2) rfl (by decide) (fun w h => by cases h; try rfl) ?_
  exact HO 7 0 ar (by omega) Fa.rf (fun j a b => by omega)
set_option maxHeartbeats 4000000 in
theorem c_X3_leastAlike {G : zG} {sz : zSz} {ar : zAr} {s : Int} (h0 : 0 ≤ s) (h1 : s < sz 3 4) (hM : MOK (sz 3 4) (ar 4) (ar 5))  : zSem G mX3_leastAlike 4 [zR 3, zI s] (X sz ar) (zpi fun r u => r = lea (ar 4) (ar 5) s ∧ ∃ ar', u = X sz ar' ∧ Fa ar ar') := by
  refine z_enter (L' := [some (zR 3), some (zI s)]) (by decide +kernel) (Nat.le_of_ble_eq_true rfl) ⟨0, rfl⟩ ?_
  have hn := hM.1
  have hn6 := hM.2.1
  refine z_aload_0 dX3_leastAlike_0 (n := 1) rfl ?_
  refine z_callV0v dX3_leastAlike_1 (n := 4) rfl mv_X3_findAlike lk_X3_80 rfl (zrm (by decide) (by decide)) (Nat.le_of_ble_eq_true rfl) (c_X3_findAlike hM) (fun u hp => ?_)
  obtain ⟨ar2, rfl, h6, hF⟩ := hp
  refine z_aload_0 dX3_leastAlike_4 (n := 5) rfl ?_
  refine z_iload_1 dX3_leastAlike_5 (n := 6) rfl ?_
  refine z_callV1i dX3_leastAlike_6 (n := 9) rfl mv_X3_has lk_X3_61 rfl (zrm (by decide) (by decide)) (Nat.le_of_ble_eq_true rfl) (c_X3_has (by first | assumption | exact ⟨by omega, by omega⟩ | exact zb_zr _) (by first | assumption | exact ⟨by omega, by omega⟩ | exact zb_zr _)) (fun r u hp => ?_)
  obtain ⟨rfl, rfl⟩ := hp
  refine z_ifB_eq dX3_leastAlike_9 (n := 12) (tg := 21) rfl (by decide) (fun c9 => ?_) (fun c9 => ?_)
  · exfalso; omega
  · refine z_aload_0 dX3_leastAlike_12 (n := 13) rfl ?_
    refine z_get dX3_leastAlike_13 (n := 16) rfl rfl fd_X3_18 rfl ?_
    refine z_iload_1 dX3_leastAlike_16 (n := 17) rfl ?_
    refine z_iald dX3_leastAlike_17 (n := 18) rfl rfl (by omega) (by omega) (by decide) ?_
    refine z_goto dX3_leastAlike_18 (n := 22) (by decide) ?_
    refine z_ret_i dX3_leastAlike_22 rfl ?_
    exact ⟨by rw [h6 s (by omega) (by omega)]; exact zLS_lea hM h0 h1, ar2, rfl, hF⟩
set_option maxHeartbeats 4000000 in
theorem c_X3_classes {G : zG} {sz : zSz} {ar : zAr} (hM : MOK (sz 3 4) (ar 4) (ar 5))  : zSem G mX3_classes 4 [zR 3] (X sz ar) (zpi fun r u => r = cnt (fun k => lea (ar 4) (ar 5) k = k) (sz 3 4).toNat ∧ ∃ ar', u = X sz ar' ∧ Fa ar ar') := by
  refine z_enter (L' := [some (zR 3), none, none]) (by decide +kernel) (Nat.le_of_ble_eq_true rfl) ⟨2, rfl⟩ ?_
  have hn := hM.1
  have hn6 := hM.2.1
  have HO : ∀ (ar' : zAr), (∀ j, 0 ≤ j → j ≤ 6 → ar' 6 j = zLS (sz 3 4) (ar 4) (ar 5) 7 j) → Fa ar ar' → ∀ (m i : Nat), i + m = (sz 3 4).toNat → zWP G mX3_classes 4 (zpi fun r u => r = cnt (fun k => lea (ar 4) (ar 5) k = k) (sz 3 4).toNat ∧ ∃ ar', u = X sz ar' ∧ Fa ar ar') 8 [some (zR 3), some (zI (cnt (fun k => lea (ar 4) (ar 5) k = k) i)), some (zI i)] [] (X sz ar') := by
    intro ar' h6 hF m
    induction m with
    | zero =>
      intro i hi
      have ei : i = (sz 3 4).toNat := by omega
      subst ei
      refine z_iload_2 dX3_classes_8 (n := 9) rfl ?_
      refine z_aload_0 dX3_classes_9 (n := 10) rfl ?_
      refine z_get dX3_classes_10 (n := 13) rfl rfl fd_X3_24 rfl ?_
      refine z_icmp_ge dX3_classes_13 (n := 16) (tg := 40) rfl (by decide) (by first | assumption | exact ⟨by omega, by omega⟩ | exact zb_zr _) (by first | assumption | exact ⟨by omega, by omega⟩ | exact zb_zr _) (fun c13 => ?_) (fun c13 => ?_)
      · refine z_iload_1 dX3_classes_40 (n := 41) rfl ?_
        refine z_ret_i dX3_classes_41 rfl ?_
        exact ⟨rfl, ar', rfl, hF⟩
      · exfalso; omega
    | succ m ih =>
      intro i hi
      have hv : ar' 6 i = lea (ar 4) (ar 5) i := by rw [h6 i (by omega) (by omega)]; exact zLS_lea hM (by omega) (by omega)
      have hlr := lea_r (ar 4) (ar 5) (s := i) (by omega)
      have h9 := ih (i + 1) (by omega)
      rw [show ((i + 1 : Nat) : Int) = (i : Int) + 1 by omega, show cnt (fun k => lea (ar 4) (ar 5) k = k) (i + 1) = cnt (fun k => lea (ar 4) (ar 5) k = k) i + zb (lea (ar 4) (ar 5) i = i) from rfl] at h9
      refine z_iload_2 dX3_classes_8 (n := 9) rfl ?_
      refine z_aload_0 dX3_classes_9 (n := 10) rfl ?_
      refine z_get dX3_classes_10 (n := 13) rfl rfl fd_X3_24 rfl ?_
      refine z_icmp_ge dX3_classes_13 (n := 16) (tg := 40) rfl (by decide) (by first | assumption | exact ⟨by omega, by omega⟩ | exact zb_zr _) (by first | assumption | exact ⟨by omega, by omega⟩ | exact zb_zr _) (fun c13 => ?_) (fun c13 => ?_)
      · exfalso; omega
      · refine z_iload_1 dX3_classes_16 (n := 17) rfl ?_
        refine z_aload_0 dX3_classes_17 (n := 18) rfl ?_
        refine z_get dX3_classes_18 (n := 21) rfl rfl fd_X3_18 rfl ?_
        refine z_iload_2 dX3_classes_21 (n := 22) rfl ?_
        refine z_iald dX3_classes_22 (n := 23) rfl rfl (by omega) (by omega) (by decide) ?_
        rw [hv]
        refine z_iload_2 dX3_classes_23 (n := 24) rfl ?_
        refine z_icmp_ne dX3_classes_24 (n := 27) (tg := 31) rfl (by decide) (by first | assumption | exact ⟨by omega, by omega⟩ | exact zb_zr _) (by first | assumption | exact ⟨by omega, by omega⟩ | exact zb_zr _) (fun c24 => ?_) (fun c24 => ?_)
        · rw [zb_f c24] at h9
          refine z_iconst dX3_classes_31 (n := 32) rfl ?_
          refine z_iadd dX3_classes_32 (n := 33) rfl ?_
          refine z_istore_1 dX3_classes_33 (n := 34) rfl (by decide) (fun w h => by cases h; try rfl) ?_
          refine z_iinc_2 dX3_classes_34 (n := 37) rfl (by decide) (fun w h => by cases h; try rfl) ?_
          refine z_goto dX3_classes_37 (n := 8) (by decide) ?_
          exact h9
        · rw [zb_t c24] at h9
          refine z_iconst dX3_classes_27 (n := 28) rfl ?_
          refine z_goto dX3_classes_28 (n := 32) (by decide) ?_
          refine z_iadd dX3_classes_32 (n := 33) rfl ?_
          refine z_istore_1 dX3_classes_33 (n := 34) rfl (by decide) (fun w h => by cases h; try rfl) ?_
          refine z_iinc_2 dX3_classes_34 (n := 37) rfl (by decide) (fun w h => by cases h; try rfl) ?_
          refine z_goto dX3_classes_37 (n := 8) (by decide) ?_
          exact h9
  refine z_aload_0 dX3_classes_0 (n := 1) rfl ?_
  refine z_callV0v dX3_classes_1 (n := 4) rfl mv_X3_findAlike lk_X3_80 rfl (zrm (by decide) (by decide)) (Nat.le_of_ble_eq_true rfl) (c_X3_findAlike hM) (fun u hp => ?_)
  obtain ⟨ar2, rfl, h6, hF⟩ := hp
  refine z_iconst dX3_classes_4 (n := 5) rfl ?_
  refine z_istore_1 dX3_classes_5 (n := 6) rfl (by decide) (fun w h => by cases h; try rfl) ?_
  refine z_iconst dX3_classes_6 (n := 7) rfl ?_
  refine z_istore_2 dX3_classes_7 (n := 8) rfl (by decide) (fun w h => by cases h; try rfl) ?_
  exact HO ar2 h6 hF (sz 3 4).toNat 0 (by omega)
/-! a machine is copied -/
set_option maxHeartbeats 4000000 in
theorem c_X3_copyFrom_83 {G : zG} {sz : zSz} {ar : zAr}  : zSem G mX3_copyFrom 1 [zR 8, zR 3] (X sz ar) (zpv fun u => u = X (zz sz 8 4 (sz 3 4)) (zq (zq ar 9 (zcp (ar 4) (ar 9) 0 0 6)) 10 (zcp (ar 5) (ar 10) 0 0 12))) := by
  refine z_enter (L' := [some (zR 8), some (zR 3)]) (by decide +kernel) (Nat.le_of_ble_eq_true rfl) ⟨0, rfl⟩ ?_
  refine z_aload_0 dX3_copyFrom_0 (n := 1) rfl ?_
  refine z_aload_1 dX3_copyFrom_1 (n := 2) rfl ?_
  refine z_get dX3_copyFrom_2 (n := 5) rfl rfl fd_X3_24 rfl ?_
  refine z_putX dX3_copyFrom_5 (n := 8) rfl rfl fw_X3_24 (by first | decide | simp) rfl ?_
  refine z_aload_1 dX3_copyFrom_8 (n := 9) rfl ?_
  refine z_get dX3_copyFrom_9 (n := 12) rfl rfl fd_X3_9 rfl ?_
  refine z_iconst dX3_copyFrom_12 (n := 13) rfl ?_
  refine z_aload_0 dX3_copyFrom_13 (n := 14) rfl ?_
  refine z_get dX3_copyFrom_14 (n := 17) rfl rfl fd_X3_9 rfl ?_
  refine z_iconst dX3_copyFrom_17 (n := 18) rfl ?_
  refine z_bipush dX3_copyFrom_18 (n := 20) rfl (by decide) ?_
  refine z_acopy dX3_copyFrom_20 (n := 23) rfl ac_X3_55 rfl rfl (fun _ => rfl) (by omega) (by omega) (by omega) (by omega) (by omega) (by decide) (by decide) (Nat.le_of_ble_eq_true rfl) ?_
  refine z_aload_1 dX3_copyFrom_23 (n := 24) rfl ?_
  refine z_get dX3_copyFrom_24 (n := 27) rfl rfl fd_X3_15 rfl ?_
  refine z_iconst dX3_copyFrom_27 (n := 28) rfl ?_
  refine z_aload_0 dX3_copyFrom_28 (n := 29) rfl ?_
  refine z_get dX3_copyFrom_29 (n := 32) rfl rfl fd_X3_15 rfl ?_
  refine z_iconst dX3_copyFrom_32 (n := 33) rfl ?_
  refine z_bipush dX3_copyFrom_33 (n := 35) rfl (by decide) ?_
  refine z_acopy dX3_copyFrom_35 (n := 38) rfl ac_X3_55 rfl rfl (fun _ => rfl) (by omega) (by omega) (by omega) (by omega) (by omega) (by decide) (by decide) (Nat.le_of_ble_eq_true rfl) ?_
  refine z_ret_v dX3_copyFrom_38 rfl ?_
  rfl
set_option maxHeartbeats 4000000 in
theorem c_X3_copyFrom_38 {G : zG} {sz : zSz} {ar : zAr}  : zSem G mX3_copyFrom 1 [zR 3, zR 8] (X sz ar) (zpv fun u => u = X (zz sz 3 4 (sz 8 4)) (zq (zq ar 4 (zcp (ar 9) (ar 4) 0 0 6)) 5 (zcp (ar 10) (ar 5) 0 0 12))) := by
  refine z_enter (L' := [some (zR 3), some (zR 8)]) (by decide +kernel) (Nat.le_of_ble_eq_true rfl) ⟨0, rfl⟩ ?_
  refine z_aload_0 dX3_copyFrom_0 (n := 1) rfl ?_
  refine z_aload_1 dX3_copyFrom_1 (n := 2) rfl ?_
  refine z_get dX3_copyFrom_2 (n := 5) rfl rfl fd_X3_24 rfl ?_
  refine z_putX dX3_copyFrom_5 (n := 8) rfl rfl fw_X3_24 (by first | decide | simp) rfl ?_
  refine z_aload_1 dX3_copyFrom_8 (n := 9) rfl ?_
  refine z_get dX3_copyFrom_9 (n := 12) rfl rfl fd_X3_9 rfl ?_
  refine z_iconst dX3_copyFrom_12 (n := 13) rfl ?_
  refine z_aload_0 dX3_copyFrom_13 (n := 14) rfl ?_
  refine z_get dX3_copyFrom_14 (n := 17) rfl rfl fd_X3_9 rfl ?_
  refine z_iconst dX3_copyFrom_17 (n := 18) rfl ?_
  refine z_bipush dX3_copyFrom_18 (n := 20) rfl (by decide) ?_
  refine z_acopy dX3_copyFrom_20 (n := 23) rfl ac_X3_55 rfl rfl (fun _ => rfl) (by omega) (by omega) (by omega) (by omega) (by omega) (by decide) (by decide) (Nat.le_of_ble_eq_true rfl) ?_
  refine z_aload_1 dX3_copyFrom_23 (n := 24) rfl ?_
  refine z_get dX3_copyFrom_24 (n := 27) rfl rfl fd_X3_15 rfl ?_
  refine z_iconst dX3_copyFrom_27 (n := 28) rfl ?_
  refine z_aload_0 dX3_copyFrom_28 (n := 29) rfl ?_
  refine z_get dX3_copyFrom_29 (n := 32) rfl rfl fd_X3_15 rfl ?_
  refine z_iconst dX3_copyFrom_32 (n := 33) rfl ?_
  refine z_bipush dX3_copyFrom_33 (n := 35) rfl (by decide) ?_
  refine z_acopy dX3_copyFrom_35 (n := 38) rfl ac_X3_55 rfl rfl (fun _ => rfl) (by omega) (by omega) (by omega) (by omega) (by omega) (by decide) (by decide) (Nat.le_of_ble_eq_true rfl) ?_
  refine z_ret_v dX3_copyFrom_38 rfl ?_
  rfl
