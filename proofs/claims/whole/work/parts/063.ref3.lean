/-! the reference: rows, states that are alike, reach -/
set_option maxHeartbeats 4000000 in
theorem lo_X7_actWord {G : zG} {sz : zSz} {ar : zAr} {w : Int} {ys : List Int} {n r0 : Int} (hw0 : 0 ≤ w) (hw1 : w < 3) (hM : MOK (sz 41 0) (ar 42) (ar 43)) (hY : LR (ar 44 w) (fun k => ar 45 (16 * w + k)) ys) (hy : Lt (sz 41 0) ys) (hyc : ys.length ≤ 16) (hn0 : 0 ≤ n) (hn1 : n ≤ 12) :
    ∀ (rest pre : List Int) (x : Int), ys = pre ++ rest → 0 ≤ x → x < 2 ^ n.toNat →
    zWP G mX7_actWord 3 (zpi fun r u => r = rwd (ar 42) (ar 43) n.toNat rest x ∧ u = X sz ar) 6 [some (zR 41), some (zI w), some (zI r0), some (zI n), some (zI x), some (zI pre.length)] [] (X sz ar) := by
  have hn := hM.1
  have hn6 := hM.2.1
  have hl := hY.1
  intro rest
  induction rest with
  | nil =>
    intro pre x e hx0 hx1
    have el : ys.length = pre.length := by rw [e]; simp
    refine z_iload_5 dX7_actWord_6 (n := 8) rfl ?_
    refine z_aload_0 dX7_actWord_8 (n := 9) rfl ?_
    refine z_get dX7_actWord_9 (n := 12) rfl rfl fd_X7_16 rfl ?_
    refine z_iload_1 dX7_actWord_12 (n := 13) rfl ?_
    refine z_iald dX7_actWord_13 (n := 14) rfl rfl (by omega) (by omega) (by decide) ?_
    refine z_icmp_ge dX7_actWord_14 (n := 17) (tg := 44) rfl (by decide) (by first | assumption | exact ⟨by omega, by omega⟩ | exact zb_zr _) (by first | assumption | exact ⟨by omega, by omega⟩ | exact zb_zr _) (fun c14 => ?_) (fun c14 => ?_)
    · refine z_iload_4 dX7_actWord_44 (n := 46) rfl ?_
      refine z_ret_i dX7_actWord_46 rfl ?_
      exact ⟨rfl, rfl⟩
    · exfalso; omega
  | cons a t ih =>
    intro pre x e hx0 hx1
    have el : ys.length = pre.length + (t.length + 1) := by rw [e]; simp
    have ha := hy a (by rw [e]; simp)
    have hm : ar 45 (16 * w + pre.length) = a := LR.mid (t := t) (n := ar 44 w) (f := fun k => ar 45 (16 * w + k)) (by rw [← e]; exact hY)
    have hr := rl_r (ar 42) (ar 43) n.toNat a x hx0 hx1
    refine z_iload_5 dX7_actWord_6 (n := 8) rfl ?_
    refine z_aload_0 dX7_actWord_8 (n := 9) rfl ?_
    refine z_get dX7_actWord_9 (n := 12) rfl rfl fd_X7_16 rfl ?_
    refine z_iload_1 dX7_actWord_12 (n := 13) rfl ?_
    refine z_iald dX7_actWord_13 (n := 14) rfl rfl (by omega) (by omega) (by decide) ?_
    refine z_icmp_ge dX7_actWord_14 (n := 17) (tg := 44) rfl (by decide) (by first | assumption | exact ⟨by omega, by omega⟩ | exact zb_zr _) (by first | assumption | exact ⟨by omega, by omega⟩ | exact zb_zr _) (fun c14 => ?_) (fun c14 => ?_)
    · exfalso; omega
    · refine z_aload_0 dX7_actWord_17 (n := 18) rfl ?_
      refine z_aload_0 dX7_actWord_18 (n := 19) rfl ?_
      refine z_get dX7_actWord_19 (n := 22) rfl rfl fd_X7_19 rfl ?_
      refine z_bipush dX7_actWord_22 (n := 24) rfl (by decide) ?_
      refine z_iload_1 dX7_actWord_24 (n := 25) rfl ?_
      refine z_imul dX7_actWord_25 (n := 26) rfl ?_
      refine z_iload_5 dX7_actWord_26 (n := 28) rfl ?_
      refine z_iadd dX7_actWord_28 (n := 29) rfl ?_
      refine z_iald dX7_actWord_29 (n := 30) rfl rfl (by omega) (by omega) (by decide) ?_
      rw [hm]
      refine z_iload_4 dX7_actWord_30 (n := 32) rfl ?_
      refine z_iload_3 dX7_actWord_32 (n := 33) rfl ?_
      refine z_callV3i dX7_actWord_33 (n := 36) rfl mv_X7_actLetter lk_X7_134 rfl (zrm (by decide) (by decide)) (Nat.le_of_ble_eq_true rfl) (c_X7_actLetter hM (by omega) (by omega) (by omega) (by omega) (by omega) (by omega)) (fun r u hp => ?_)
      obtain ⟨rfl, rfl⟩ := hp
      refine z_istore_4 dX7_actWord_36 (n := 38) rfl (by decide) (fun w h => by cases h; try rfl) ?_
      refine z_iinc_5 dX7_actWord_38 (n := 41) rfl (by decide) (fun w h => by cases h; try rfl) ?_
      refine z_goto dX7_actWord_41 (n := 6) (by decide) ?_
      have h9 := ih (pre ++ [a]) (rl (ar 42) (ar 43) n.toNat a x) (by rw [e]; simp) hr.1 hr.2
      rw [show ((pre ++ [a]).length : Int) = (pre.length : Int) + 1 by simp] at h9
      exact h9
set_option maxHeartbeats 4000000 in
theorem c_X7_actWord {G : zG} {sz : zSz} {ar : zAr} {w : Int} {ys : List Int} {n x : Int} (hw0 : 0 ≤ w) (hw1 : w < 3) (hM : MOK (sz 41 0) (ar 42) (ar 43)) (hY : LR (ar 44 w) (fun k => ar 45 (16 * w + k)) ys ∧ Lt (sz 41 0) ys ∧ ys.length ≤ 16) (hn0 : 0 ≤ n) (hn1 : n ≤ 12) (hx0 : 0 ≤ x) (hx1 : x < 2 ^ n.toNat)  : zSem G mX7_actWord 3 [zR 41, zI w, zI x, zI n] (X sz ar) (zpi fun r u => r = rwd (ar 42) (ar 43) n.toNat ys x ∧ u = X sz ar) := by
  refine z_enter (L' := [some (zR 41), some (zI w), some (zI x), some (zI n), none, none]) (by decide +kernel) (Nat.le_of_ble_eq_true rfl) ⟨2, rfl⟩ ?_
  refine z_iload_2 dX7_actWord_0 (n := 1) rfl ?_
  refine z_istore_4 dX7_actWord_1 (n := 3) rfl (by decide) (fun w h => by cases h; try rfl) ?_
  refine z_iconst dX7_actWord_3 (n := 4) rfl ?_
  refine z_istore_5 dX7_actWord_4 (n := 6) rfl (by decide) (fun w h => by cases h; try rfl) ?_
  exact lo_X7_actWord hw0 hw1 hM hY.1 hY.2.1 hY.2.2 hn0 hn1 ys [] x rfl hx0 hx1
def alkN (kd nx : Int → Int) (i j k : Int) : Prop := ∀ x, 0 ≤ x → x < k → rl kd nx 7 (2 * i) x = rl kd nx 7 (2 * j) x
set_option maxHeartbeats 4000000 in
theorem c_X7_isAlike {G : zG} {sz : zSz} {ar : zAr} {i j : Int} (hi0 : 0 ≤ i) (hi1 : i < sz 41 0) (hj0 : 0 ≤ j) (hj1 : j < sz 41 0) (hM : MOK (sz 41 0) (ar 42) (ar 43))  : zSem G mX7_isAlike 3 [zR 41, zI i, zI j] (X sz ar) (zpi fun r u => r = zb (alk (ar 42) (ar 43) i j) ∧ u = X sz ar) := by
  refine z_enter (L' := [some (zR 41), some (zI i), some (zI j), none, none]) (by decide +kernel) (Nat.le_of_ble_eq_true rfl) ⟨2, rfl⟩ ?_
  have hn6 := hM.2.1
  have HO : ∀ (m k : Nat), k + m = 128 → zWP G mX7_isAlike 3 (zpi fun r u => r = zb (alk (ar 42) (ar 43) i j) ∧ u = X sz ar) 5 [some (zR 41), some (zI i), some (zI j), some (zI (zb (alkN (ar 42) (ar 43) i j k))), some (zI k)] [] (X sz ar) := by
    intro m
    induction m with
    | zero =>
      intro k hk
      have ek : k = 128 := by omega
      subst ek
      refine z_iload_4 dX7_isAlike_5 (n := 7) rfl ?_
      refine z_sipush dX7_isAlike_7 (n := 10) rfl (by decide) ?_
      refine z_icmp_ge dX7_isAlike_10 (n := 13) (tg := 54) rfl (by decide) (by first | assumption | exact ⟨by omega, by omega⟩ | exact zb_zr _) (by first | assumption | exact ⟨by omega, by omega⟩ | exact zb_zr _) (fun c10 => ?_) (fun c10 => ?_)
      · refine z_iload_3 dX7_isAlike_54 (n := 55) rfl ?_
        refine z_ret_z dX7_isAlike_55 rfl (by first | exact Or.inl rfl | exact Or.inr rfl | exact zb_or _) ?_
        exact ⟨rfl, rfl⟩
      · exfalso; omega
    | succ m ih =>
      intro k hk
      have h9 := ih (k + 1) (by omega)
      rw [show ((k + 1 : Nat) : Int) = (k : Int) + 1 by omega] at h9
      have h128 : (k : Int) < 2 ^ (7 : Int).toNat := by show (k : Int) < 128; omega
      have r1 := rl_r (ar 42) (ar 43) 7 (2 * i) k (by omega) h128
      have r2 := rl_r (ar 42) (ar 43) 7 (2 * j) k (by omega) h128
      have e7 : (2 : Int) ^ 7 = 128 := rfl
      refine z_iload_4 dX7_isAlike_5 (n := 7) rfl ?_
      refine z_sipush dX7_isAlike_7 (n := 10) rfl (by decide) ?_
      refine z_icmp_ge dX7_isAlike_10 (n := 13) (tg := 54) rfl (by decide) (by first | assumption | exact ⟨by omega, by omega⟩ | exact zb_zr _) (by first | assumption | exact ⟨by omega, by omega⟩ | exact zb_zr _) (fun c10 => ?_) (fun c10 => ?_)
      · exfalso; omega
      · refine z_iload_3 dX7_isAlike_13 (n := 14) rfl ?_
        refine z_ifB_eq dX7_isAlike_14 (n := 17) (tg := 46) rfl (by decide) (fun c14 => ?_) (fun c14 => ?_)
        · rw [zb_f (p := alkN (ar 42) (ar 43) i j (k + 1)) (fun z => c14 (fun x a b => z x a (by omega)))] at h9
          refine z_iconst dX7_isAlike_46 (n := 47) rfl ?_
          refine z_istore_3 dX7_isAlike_47 (n := 48) rfl (by decide) (fun w h => by cases h; try rfl) ?_
          refine z_iinc_4 dX7_isAlike_48 (n := 51) rfl (by decide) (fun w h => by cases h; try rfl) ?_
          refine z_goto dX7_isAlike_51 (n := 5) (by decide) ?_
          exact h9
        · refine z_aload_0 dX7_isAlike_17 (n := 18) rfl ?_
          refine z_iconst dX7_isAlike_18 (n := 19) rfl ?_
          refine z_iload_1 dX7_isAlike_19 (n := 20) rfl ?_
          refine z_imul dX7_isAlike_20 (n := 21) rfl ?_
          refine z_iload_4 dX7_isAlike_21 (n := 23) rfl ?_
          refine z_bipush dX7_isAlike_23 (n := 25) rfl (by decide) ?_
          refine z_callV3i dX7_isAlike_25 (n := 28) rfl mv_X7_actLetter lk_X7_134 rfl (zrm (by decide) (by decide)) (Nat.le_of_ble_eq_true rfl) (c_X7_actLetter hM (by omega) (by omega) (by decide) (by decide) (by omega) h128) (fun r u hp => ?_)
          obtain ⟨rfl, rfl⟩ := hp
          rw [show (7 : Int).toNat = 7 from rfl]
          refine z_aload_0 dX7_isAlike_28 (n := 29) rfl ?_
          refine z_iconst dX7_isAlike_29 (n := 30) rfl ?_
          refine z_iload_2 dX7_isAlike_30 (n := 31) rfl ?_
          refine z_imul dX7_isAlike_31 (n := 32) rfl ?_
          refine z_iload_4 dX7_isAlike_32 (n := 34) rfl ?_
          refine z_bipush dX7_isAlike_34 (n := 36) rfl (by decide) ?_
          refine z_callV3i dX7_isAlike_36 (n := 39) rfl mv_X7_actLetter lk_X7_134 rfl (zrm (by decide) (by decide)) (Nat.le_of_ble_eq_true rfl) (c_X7_actLetter hM (by omega) (by omega) (by decide) (by decide) (by omega) h128) (fun r u hp => ?_)
          obtain ⟨rfl, rfl⟩ := hp
          rw [show (7 : Int).toNat = 7 from rfl]
          refine z_icmp_ne dX7_isAlike_39 (n := 42) (tg := 46) rfl (by decide) (by first | assumption | exact ⟨by omega, by omega⟩ | exact zb_zr _) (by first | assumption | exact ⟨by omega, by omega⟩ | exact zb_zr _) (fun c39 => ?_) (fun c39 => ?_)
          · rw [zb_f (p := alkN (ar 42) (ar 43) i j (k + 1)) (fun z => c39 (z k (by omega) (by omega)))] at h9
            refine z_iconst dX7_isAlike_46 (n := 47) rfl ?_
            refine z_istore_3 dX7_isAlike_47 (n := 48) rfl (by decide) (fun w h => by cases h; try rfl) ?_
            refine z_iinc_4 dX7_isAlike_48 (n := 51) rfl (by decide) (fun w h => by cases h; try rfl) ?_
            refine z_goto dX7_isAlike_51 (n := 5) (by decide) ?_
            exact h9
          · rw [zb_t (p := alkN (ar 42) (ar 43) i j (k + 1)) (fun x a b => by by_cases e : x = k; (rw [e]; exact c39); exact c14 x a (by omega))] at h9
            refine z_iconst dX7_isAlike_42 (n := 43) rfl ?_
            refine z_goto dX7_isAlike_43 (n := 47) (by decide) ?_
            refine z_istore_3 dX7_isAlike_47 (n := 48) rfl (by decide) (fun w h => by cases h; try rfl) ?_
            refine z_iinc_4 dX7_isAlike_48 (n := 51) rfl (by decide) (fun w h => by cases h; try rfl) ?_
            refine z_goto dX7_isAlike_51 (n := 5) (by decide) ?_
            exact h9
  have h8 := HO 128 0 (by omega)
  rw [zb_t (p := alkN (ar 42) (ar 43) i j ((0 : Nat) : Int)) (fun x a b => by omega)] at h8
  refine z_iconst dX7_isAlike_0 (n := 1) rfl ?_
  refine z_istore_3 dX7_isAlike_1 (n := 2) rfl (by decide) (fun w h => by cases h; try rfl) ?_
  refine z_iconst dX7_isAlike_2 (n := 3) rfl ?_
  refine z_istore_4 dX7_isAlike_3 (n := 5) rfl (by decide) (fun w h => by cases h; try rfl) ?_
  exact h8
set_option maxHeartbeats 4000000 in
theorem c_X7_leastAlike {G : zG} {sz : zSz} {ar : zAr} {s : Int} (h0 : 0 ≤ s) (h1 : s < sz 41 0) (hM : MOK (sz 41 0) (ar 42) (ar 43))  : zSem G mX7_leastAlike 4 [zR 41, zI s] (X sz ar) (zpi fun r u => r = lea (ar 42) (ar 43) s ∧ u = X sz ar) := by
  refine z_enter (L' := [some (zR 41), some (zI s), none]) (by decide +kernel) (Nat.le_of_ble_eq_true rfl) ⟨1, rfl⟩ ?_
  have hn6 := hM.2.1
  have HO : ∀ (m : Nat) (j : Int), 0 ≤ j → j + m = s → zWP G mX7_leastAlike 4 (zpi fun r u => r = ffG (fun j => alk (ar 42) (ar 43) j s) m j ∧ u = X sz ar) 2 [some (zR 41), some (zI s), some (zI j)] [] (X sz ar) := by
    intro m
    induction m with
    | zero =>
      intro j hj0 hj
      have ej : j = s := by omega
      subst ej
      refine z_aload_0 dX7_leastAlike_2 (n := 3) rfl ?_
      refine z_iload_2 dX7_leastAlike_3 (n := 4) rfl ?_
      refine z_iload_1 dX7_leastAlike_4 (n := 5) rfl ?_
      refine z_callV2i dX7_leastAlike_5 (n := 8) rfl mv_X7_isAlike lk_X7_138 rfl (zrm (by decide) (by decide)) (Nat.le_of_ble_eq_true rfl) (c_X7_isAlike (by omega) (by omega) (by omega) (by omega) hM) (fun r u hp => ?_)
      obtain ⟨rfl, rfl⟩ := hp
      refine z_ifB_ne dX7_leastAlike_8 (n := 11) (tg := 17) rfl (by decide) (fun c8 => ?_) (fun c8 => ?_)
      · refine z_iload_2 dX7_leastAlike_17 (n := 18) rfl ?_
        refine z_ret_i dX7_leastAlike_18 rfl ?_
        exact ⟨rfl, rfl⟩
      · exact absurd (fun x _ _ => rfl) c8
    | succ m ih =>
      intro j hj0 hj
      have h9 := ih (j + 1) (by omega) (by omega)
      refine z_aload_0 dX7_leastAlike_2 (n := 3) rfl ?_
      refine z_iload_2 dX7_leastAlike_3 (n := 4) rfl ?_
      refine z_iload_1 dX7_leastAlike_4 (n := 5) rfl ?_
      refine z_callV2i dX7_leastAlike_5 (n := 8) rfl mv_X7_isAlike lk_X7_138 rfl (zrm (by decide) (by decide)) (Nat.le_of_ble_eq_true rfl) (c_X7_isAlike (by omega) (by omega) (by omega) (by omega) hM) (fun r u hp => ?_)
      obtain ⟨rfl, rfl⟩ := hp
      refine z_ifB_ne dX7_leastAlike_8 (n := 11) (tg := 17) rfl (by decide) (fun c8 => ?_) (fun c8 => ?_)
      · refine z_iload_2 dX7_leastAlike_17 (n := 18) rfl ?_
        refine z_ret_i dX7_leastAlike_18 rfl ?_
        exact ⟨(ffG_t (p := fun j => alk (ar 42) (ar 43) j s) c8).symm, rfl⟩
      · refine z_iinc_2 dX7_leastAlike_11 (n := 14) rfl (by decide) (fun w h => by cases h; try rfl) ?_
        refine z_goto dX7_leastAlike_14 (n := 2) (by decide) ?_
        rw [ffG_f (p := fun j => alk (ar 42) (ar 43) j s) c8]
        exact h9
  refine z_iconst dX7_leastAlike_0 (n := 1) rfl ?_
  refine z_istore_2 dX7_leastAlike_1 (n := 2) rfl (by decide) (fun w h => by cases h; try rfl) ?_
  exact HO s.toNat 0 (by omega) (by omega)
set_option maxHeartbeats 4000000 in
theorem c_X7_nextOf {G : zG} {sz : zSz} {ar : zAr} {s : Int} (h0 : 0 ≤ s) (h1 : s < sz 41 0) (hM : MOK (sz 41 0) (ar 42) (ar 43))  : zSem G mX7_nextOf 1 [zR 41, zI s] (X sz ar) (zpi fun r u => r = nxs (ar 42) (ar 43) s ∧ u = X sz ar) := by
  refine z_enter (L' := [some (zR 41), some (zI s), none, none, none]) (by decide +kernel) (Nat.le_of_ble_eq_true rfl) ⟨3, rfl⟩ ?_
  have hn6 := hM.2.1
  have hg0 := hM.go (s := s) (w := 0) h0 h1 (by omega) (by omega)
  have hg1 := hM.go (s := s) (w := 1) h0 h1 (by omega) (by omega)
  have hpw : ∀ k : Nat, 0 ≤ 1 * (2 : Int) ^ k := fun k => by have := p2_pos k; omega
  have H2 : ∀ y, zWP G mX7_nextOf 1 (zpi fun r u => r = nxs (ar 42) (ar 43) s ∧ u = X sz ar) 4 [some (zR 41), some (zI s), some (zI (zor (zor 0 (bitS (gon (ar 42) (ar 43) s 0))) (bitS (gon (ar 42) (ar 43) s 1)))), some (zI 2), y] [] (X sz ar) := by
    intro y
    refine z_iload_3 dX7_nextOf_4 (n := 5) rfl ?_
    refine z_iconst dX7_nextOf_5 (n := 6) rfl ?_
    refine z_icmp_ge dX7_nextOf_6 (n := 9) (tg := 40) rfl (by decide) (by first | assumption | exact ⟨by omega, by omega⟩ | exact zb_zr _) (by first | assumption | exact ⟨by omega, by omega⟩ | exact zb_zr _) (fun c6 => ?_) (fun c6 => ?_)
    · refine z_iload_2 dX7_nextOf_40 (n := 41) rfl ?_
      refine z_ret_i dX7_nextOf_41 rfl ?_
      exact ⟨rfl, rfl⟩
    · exfalso; omega
  have H1 : ∀ y, zWP G mX7_nextOf 1 (zpi fun r u => r = nxs (ar 42) (ar 43) s ∧ u = X sz ar) 4 [some (zR 41), some (zI s), some (zI (zor 0 (bitS (gon (ar 42) (ar 43) s 0)))), some (zI 1), y] [] (X sz ar) := by
    intro y
    have h9 := H2 (some (zI (gon (ar 42) (ar 43) s 1)))
    refine z_iload_3 dX7_nextOf_4 (n := 5) rfl ?_
    refine z_iconst dX7_nextOf_5 (n := 6) rfl ?_
    refine z_icmp_ge dX7_nextOf_6 (n := 9) (tg := 40) rfl (by decide) (by first | assumption | exact ⟨by omega, by omega⟩ | exact zb_zr _) (by first | assumption | exact ⟨by omega, by omega⟩ | exact zb_zr _) (fun c6 => ?_) (fun c6 => ?_)
    · exfalso; omega
    · refine z_aload_0 dX7_nextOf_9 (n := 10) rfl ?_
      refine z_iload_1 dX7_nextOf_10 (n := 11) rfl ?_
      refine z_iload_3 dX7_nextOf_11 (n := 12) rfl ?_
      refine z_callV2i dX7_nextOf_12 (n := 15) rfl mv_X7_goesOn lk_X7_127 rfl (zrm (by decide) (by decide)) (Nat.le_of_ble_eq_true rfl) (c_X7_goesOn (by omega) (by omega) (by omega) (by omega) hM) (fun r u hp => ?_)
      obtain ⟨rfl, rfl⟩ := hp
      refine z_istore_4 dX7_nextOf_15 (n := 17) rfl (by decide) (fun w h => by cases h; try rfl) ?_
      refine z_iload_2 dX7_nextOf_17 (n := 18) rfl ?_
      refine z_iload_4 dX7_nextOf_18 (n := 20) rfl ?_
      refine z_iconst dX7_nextOf_20 (n := 21) rfl ?_
      refine z_icmp_ne dX7_nextOf_21 (n := 24) (tg := 28) rfl (by decide) (by first | assumption | exact ⟨by omega, by omega⟩ | exact zb_zr _) (by first | assumption | exact ⟨by omega, by omega⟩ | exact zb_zr _) (fun c21 => ?_) (fun c21 => ?_)
      · rw [show bitS (gon (ar 42) (ar 43) s 1) = 1 * 2 ^ (gon (ar 42) (ar 43) s 1).toNat by unfold bitS; rw [if_pos (by omega), Int.one_mul]] at h9
        refine z_iconst dX7_nextOf_28 (n := 29) rfl ?_
        refine z_iload_4 dX7_nextOf_29 (n := 31) rfl ?_
        refine z_ishl dX7_nextOf_31 (n := 32) rfl (by omega) (by omega) ?_
        refine z_ior dX7_nextOf_32 (n := 33) rfl (by first | omega | exact zor_0 _ _ | exact hpw _) (by first | omega | exact zor_0 _ _ | exact hpw _) ?_
        refine z_istore_2 dX7_nextOf_33 (n := 34) rfl (by decide) (fun w h => by cases h; try rfl) ?_
        refine z_iinc_3 dX7_nextOf_34 (n := 37) rfl (by decide) (fun w h => by cases h; try rfl) ?_
        refine z_goto dX7_nextOf_37 (n := 4) (by decide) ?_
        exact h9
      · rw [show bitS (gon (ar 42) (ar 43) s 1) = 0 from if_neg (by omega)] at h9
        refine z_iconst dX7_nextOf_24 (n := 25) rfl ?_
        refine z_goto dX7_nextOf_25 (n := 32) (by decide) ?_
        refine z_ior dX7_nextOf_32 (n := 33) rfl (by first | omega | exact zor_0 _ _ | exact hpw _) (by first | omega | exact zor_0 _ _ | exact hpw _) ?_
        refine z_istore_2 dX7_nextOf_33 (n := 34) rfl (by decide) (fun w h => by cases h; try rfl) ?_
        refine z_iinc_3 dX7_nextOf_34 (n := 37) rfl (by decide) (fun w h => by cases h; try rfl) ?_
        refine z_goto dX7_nextOf_37 (n := 4) (by decide) ?_
        exact h9
  have H0 : ∀ y, zWP G mX7_nextOf 1 (zpi fun r u => r = nxs (ar 42) (ar 43) s ∧ u = X sz ar) 4 [some (zR 41), some (zI s), some (zI 0), some (zI 0), y] [] (X sz ar) := by
    intro y
    have h9 := H1 (some (zI (gon (ar 42) (ar 43) s 0)))
    refine z_iload_3 dX7_nextOf_4 (n := 5) rfl ?_
    refine z_iconst dX7_nextOf_5 (n := 6) rfl ?_
    refine z_icmp_ge dX7_nextOf_6 (n := 9) (tg := 40) rfl (by decide) (by first | assumption | exact ⟨by omega, by omega⟩ | exact zb_zr _) (by first | assumption | exact ⟨by omega, by omega⟩ | exact zb_zr _) (fun c6 => ?_) (fun c6 => ?_)
    · exfalso; omega
    · refine z_aload_0 dX7_nextOf_9 (n := 10) rfl ?_
      refine z_iload_1 dX7_nextOf_10 (n := 11) rfl ?_
      refine z_iload_3 dX7_nextOf_11 (n := 12) rfl ?_
      refine z_callV2i dX7_nextOf_12 (n := 15) rfl mv_X7_goesOn lk_X7_127 rfl (zrm (by decide) (by decide)) (Nat.le_of_ble_eq_true rfl) (c_X7_goesOn (by omega) (by omega) (by omega) (by omega) hM) (fun r u hp => ?_)
      obtain ⟨rfl, rfl⟩ := hp
      refine z_istore_4 dX7_nextOf_15 (n := 17) rfl (by decide) (fun w h => by cases h; try rfl) ?_
      refine z_iload_2 dX7_nextOf_17 (n := 18) rfl ?_
      refine z_iload_4 dX7_nextOf_18 (n := 20) rfl ?_
      refine z_iconst dX7_nextOf_20 (n := 21) rfl ?_
      refine z_icmp_ne dX7_nextOf_21 (n := 24) (tg := 28) rfl (by decide) (by first | assumption | exact ⟨by omega, by omega⟩ | exact zb_zr _) (by first | assumption | exact ⟨by omega, by omega⟩ | exact zb_zr _) (fun c21 => ?_) (fun c21 => ?_)
      · rw [show bitS (gon (ar 42) (ar 43) s 0) = 1 * 2 ^ (gon (ar 42) (ar 43) s 0).toNat by unfold bitS; rw [if_pos (by omega), Int.one_mul]] at h9
        refine z_iconst dX7_nextOf_28 (n := 29) rfl ?_
        refine z_iload_4 dX7_nextOf_29 (n := 31) rfl ?_
        refine z_ishl dX7_nextOf_31 (n := 32) rfl (by omega) (by omega) ?_
        refine z_ior dX7_nextOf_32 (n := 33) rfl (by first | omega | exact zor_0 _ _ | exact hpw _) (by first | omega | exact zor_0 _ _ | exact hpw _) ?_
        refine z_istore_2 dX7_nextOf_33 (n := 34) rfl (by decide) (fun w h => by cases h; try rfl) ?_
        refine z_iinc_3 dX7_nextOf_34 (n := 37) rfl (by decide) (fun w h => by cases h; try rfl) ?_
        refine z_goto dX7_nextOf_37 (n := 4) (by decide) ?_
        exact h9
      · rw [show bitS (gon (ar 42) (ar 43) s 0) = 0 from if_neg (by omega)] at h9
        refine z_iconst dX7_nextOf_24 (n := 25) rfl ?_
        refine z_goto dX7_nextOf_25 (n := 32) (by decide) ?_
        refine z_ior dX7_nextOf_32 (n := 33) rfl (by first | omega | exact zor_0 _ _ | exact hpw _) (by first | omega | exact zor_0 _ _ | exact hpw _) ?_
        refine z_istore_2 dX7_nextOf_33 (n := 34) rfl (by decide) (fun w h => by cases h; try rfl) ?_
        refine z_iinc_3 dX7_nextOf_34 (n := 37) rfl (by decide) (fun w h => by cases h; try rfl) ?_
        refine z_goto dX7_nextOf_37 (n := 4) (by decide) ?_
        exact h9
  refine z_iconst dX7_nextOf_0 (n := 1) rfl ?_
  refine z_istore_2 dX7_nextOf_1 (n := 2) rfl (by decide) (fun w h => by cases h; try rfl) ?_
  refine z_iconst dX7_nextOf_2 (n := 3) rfl ?_
  refine z_istore_3 dX7_nextOf_3 (n := 4) rfl (by decide) (fun w h => by cases h; try rfl) ?_
  exact H0 _
set_option maxHeartbeats 4000000 in
theorem li_X7_reach {G : zG} {sz : zSz} {ar : zAr} {s R i : Int} {P : Option zV → zS → Prop} (hM : MOK (sz 41 0) (ar 42) (ar 43)) (hR0 : 0 ≤ R) (hR1 : R < 2 ^ 6) (hi0 : 0 ≤ i) (hi1 : i < 6)
    (K : zWP G mX7_reach 2 P 54 [some (zR 41), some (zI s), some (zI (rIn (ar 42) (ar 43) (sz 41 0).toNat R)), some (zI i), some (zI (sz 41 0))] [] (X sz ar)) :
    ∀ (m o : Nat), o + m = (sz 41 0).toNat → zWP G mX7_reach 2 P 17 [some (zR 41), some (zI s), some (zI (rIn (ar 42) (ar 43) o R)), some (zI i), some (zI o)] [] (X sz ar) := by
  have hn := hM.1
  have hn6 := hM.2.1
  intro m
  induction m with
  | zero =>
    intro o ho
    have eo : o = (sz 41 0).toNat := by omega
    subst eo
    rw [Int.toNat_of_nonneg hn]
    refine z_iload_4 dX7_reach_17 (n := 19) rfl ?_
    refine z_aload_0 dX7_reach_19 (n := 20) rfl ?_
    refine z_get dX7_reach_20 (n := 23) rfl rfl fd_X7_96 rfl ?_
    refine z_icmp_ge dX7_reach_23 (n := 26) (tg := 54) rfl (by decide) (by first | assumption | exact ⟨by omega, by omega⟩ | exact zb_zr _) (by first | assumption | exact ⟨by omega, by omega⟩ | exact zb_zr _) (fun c23 => ?_) (fun c23 => ?_)
    · exact K
    · exfalso; omega
  | succ m ih =>
    intro o ho
    have hr := rIn_r hM o R (by omega) hR0 hR1
    have hx := nxs_r hM (s := o) (by omega) (by omega)
    have h9 := ih (o + 1) (by omega)
    rw [show ((o + 1 : Nat) : Int) = (o : Int) + 1 by omega] at h9
    refine z_iload_4 dX7_reach_17 (n := 19) rfl ?_
    refine z_aload_0 dX7_reach_19 (n := 20) rfl ?_
    refine z_get dX7_reach_20 (n := 23) rfl rfl fd_X7_96 rfl ?_
    refine z_icmp_ge dX7_reach_23 (n := 26) (tg := 54) rfl (by decide) (by first | assumption | exact ⟨by omega, by omega⟩ | exact zb_zr _) (by first | assumption | exact ⟨by omega, by omega⟩ | exact zb_zr _) (fun c23 => ?_) (fun c23 => ?_)
    · exfalso; omega
    · refine z_iload_2 dX7_reach_26 (n := 27) rfl ?_
      refine z_iload_2 dX7_reach_27 (n := 28) rfl ?_
      refine z_iload_4 dX7_reach_28 (n := 30) rfl ?_
      refine z_callS2i dX7_reach_30 (n := 33) rfl ms_X7_isBit lk_X7_144 (zrm (by decide) (by decide)) (Nat.le_of_ble_eq_true rfl) (c_X7_isBit (by first | assumption | exact ⟨by omega, by omega⟩ | exact zb_zr _) (by omega) (by omega) (by omega)) (fun r u hp => ?_)
      obtain ⟨rfl, rfl⟩ := hp
      refine z_ifB_eq dX7_reach_33 (n := 36) (tg := 45) rfl (by decide) (fun c33 => ?_) (fun c33 => ?_)
      · rw [show rIn (ar 42) (ar 43) (o + 1) R = zor (rIn (ar 42) (ar 43) o R) 0 by rw [zor_zero hr.1]; exact if_neg c33] at h9
        refine z_iconst dX7_reach_45 (n := 46) rfl ?_
        refine z_ior dX7_reach_46 (n := 47) rfl (by omega) (by omega) ?_
        refine z_istore_2 dX7_reach_47 (n := 48) rfl (by decide) (fun w h => by cases h; try rfl) ?_
        refine z_iinc_4 dX7_reach_48 (n := 51) rfl (by decide) (fun w h => by cases h; try rfl) ?_
        refine z_goto dX7_reach_51 (n := 17) (by decide) ?_
        exact h9
      · rw [show rIn (ar 42) (ar 43) (o + 1) R = zor (rIn (ar 42) (ar 43) o R) (nxs (ar 42) (ar 43) o) from if_pos c33] at h9
        refine z_aload_0 dX7_reach_36 (n := 37) rfl ?_
        refine z_iload_4 dX7_reach_37 (n := 39) rfl ?_
        refine z_callV1i dX7_reach_39 (n := 42) rfl mv_X7_nextOf lk_X7_141 rfl (zrm (by decide) (by decide)) (Nat.le_of_ble_eq_true rfl) (c_X7_nextOf (by omega) (by omega) hM) (fun r u hp => ?_)
        obtain ⟨rfl, rfl⟩ := hp
        refine z_goto dX7_reach_42 (n := 46) (by decide) ?_
        refine z_ior dX7_reach_46 (n := 47) rfl (by omega) (by omega) ?_
        refine z_istore_2 dX7_reach_47 (n := 48) rfl (by decide) (fun w h => by cases h; try rfl) ?_
        refine z_iinc_4 dX7_reach_48 (n := 51) rfl (by decide) (fun w h => by cases h; try rfl) ?_
        refine z_goto dX7_reach_51 (n := 17) (by decide) ?_
        exact h9
set_option maxHeartbeats 4000000 in
theorem c_X7_reach {G : zG} {sz : zSz} {ar : zAr} {s : Int} (h0 : 0 ≤ s) (h1 : s < sz 41 0) (hM : MOK (sz 41 0) (ar 42) (ar 43))  : zSem G mX7_reach 2 [zR 41, zI s] (X sz ar) (zpi fun r u => r = rch (ar 42) (ar 43) (sz 41 0) s ∧ u = X sz ar) := by
  refine z_enter (L' := [some (zR 41), some (zI s), none, none, none]) (by decide +kernel) (Nat.le_of_ble_eq_true rfl) ⟨3, rfl⟩ ?_
  have hn := hM.1
  have hn6 := hM.2.1
  have hx := nxs_r hM h0 h1
  have HO : ∀ (m i : Nat), i + m = 6 → ∀ y, zWP G mX7_reach 2 (zpi fun r u => r = rch (ar 42) (ar 43) (sz 41 0) s ∧ u = X sz ar) 8 [some (zR 41), some (zI s), some (zI (rOut (ar 42) (ar 43) (sz 41 0).toNat i (nxs (ar 42) (ar 43) s))), some (zI i), y] [] (X sz ar) := by
    intro m
    induction m with
    | zero =>
      intro i hi y
      have ei : i = 6 := by omega
      subst ei
      refine z_iload_3 dX7_reach_8 (n := 9) rfl ?_
      refine z_bipush dX7_reach_9 (n := 11) rfl (by decide) ?_
      refine z_icmp_ge dX7_reach_11 (n := 14) (tg := 60) rfl (by decide) (by first | assumption | exact ⟨by omega, by omega⟩ | exact zb_zr _) (by first | assumption | exact ⟨by omega, by omega⟩ | exact zb_zr _) (fun c11 => ?_) (fun c11 => ?_)
      · refine z_iload_2 dX7_reach_60 (n := 61) rfl ?_
        refine z_ret_i dX7_reach_61 rfl ?_
        exact ⟨rfl, rfl⟩
      · exfalso; omega
    | succ m ih =>
      intro i hi y
      have hr := rOut_r hM i _ hx.1 hx.2
      have h9 := ih (i + 1) (by omega)
      rw [show ((i + 1 : Nat) : Int) = (i : Int) + 1 by omega] at h9
      refine z_iload_3 dX7_reach_8 (n := 9) rfl ?_
      refine z_bipush dX7_reach_9 (n := 11) rfl (by decide) ?_
      refine z_icmp_ge dX7_reach_11 (n := 14) (tg := 60) rfl (by decide) (by first | assumption | exact ⟨by omega, by omega⟩ | exact zb_zr _) (by first | assumption | exact ⟨by omega, by omega⟩ | exact zb_zr _) (fun c11 => ?_) (fun c11 => ?_)
      · exfalso; omega
      · refine z_iconst dX7_reach_14 (n := 15) rfl ?_
        refine z_istore_4 dX7_reach_15 (n := 17) rfl (by decide) (fun w h => by cases h; try rfl) ?_
        refine li_X7_reach hM hr.1 hr.2 (by omega) (by omega) ?_ (sz 41 0).toNat 0 (by omega)
        refine z_iinc_3 dX7_reach_54 (n := 57) rfl (by decide) (fun w h => by cases h; try rfl) ?_
        refine z_goto dX7_reach_57 (n := 8) (by decide) ?_
        exact h9 _
  refine z_aload_0 dX7_reach_0 (n := 1) rfl ?_
  refine z_iload_1 dX7_reach_1 (n := 2) rfl ?_
  refine z_callV1i dX7_reach_2 (n := 5) rfl mv_X7_nextOf lk_X7_141 rfl (zrm (by decide) (by decide)) (Nat.le_of_ble_eq_true rfl) (c_X7_nextOf (by omega) (by omega) hM) (fun r u hp => ?_)
  obtain ⟨rfl, rfl⟩ := hp
  refine z_istore_2 dX7_reach_5 (n := 6) rfl (by decide) (fun w h => by cases h; try rfl) ?_
  refine z_iconst dX7_reach_6 (n := 7) rfl ?_
  refine z_istore_3 dX7_reach_7 (n := 8) rfl (by decide) (fun w h => by cases h; try rfl) ?_
  exact HO 6 0 rfl none
/-! sorts, and what to ask -/
abbrev cld (k q : Int) : Prop := (q = 0 ∧ (k = 1 ∨ k = 2 ∨ k = 4)) ∨ (q = 1 ∧ k < 3) ∨ (q = 2 ∧ k = 2) ∨ (q ≠ 0 ∧ q ≠ 1 ∧ q ≠ 2 ∧ 2 < k)
set_option maxHeartbeats 4000000 in
theorem c_X7_could {G : zG} {sz : zSz} {ar : zAr} {k q : Int} (hk : zr k) (hq : zr q)  : zSem G mX7_could 0 [zI k, zI q] (X sz ar) (zpi fun r u => r = zb (cld k q) ∧ u = X sz ar) := by
  refine z_enter (L' := [some (zI k), some (zI q)]) (by decide +kernel) (Nat.le_of_ble_eq_true rfl) ⟨0, rfl⟩ ?_
  refine z_iload_1 dX7_could_0 (n := 1) rfl ?_
  refine z_by (0) (fun q1 => ?_) (fun q1_0 => ?_)
  · refine z_tsIn (off := 27) (tg := 28) dX7_could_1 (by first | assumption | exact ⟨by omega, by omega⟩ | exact zb_zr _) (by omega) (by omega) (by rw [q1]; rfl) (by decide) ?_
    refine z_iload_0 dX7_could_28 (n := 29) rfl ?_
    refine z_iconst dX7_could_29 (n := 30) rfl ?_
    refine z_icmp_eq dX7_could_30 (n := 33) (tg := 43) rfl (by decide) (by first | assumption | exact ⟨by omega, by omega⟩ | exact zb_zr _) (by first | assumption | exact ⟨by omega, by omega⟩ | exact zb_zr _) (fun c30 => ?_) (fun c30 => ?_)
    · refine z_iconst dX7_could_43 (n := 44) rfl ?_
      refine z_goto dX7_could_44 (n := 48) (by decide) ?_
      refine z_ret_z dX7_could_48 rfl (by first | exact Or.inl rfl | exact Or.inr rfl | exact zb_or _) ?_
      first | exact ⟨(zb_t (by unfold cld; omega)).symm, rfl⟩ | exact ⟨(zb_f (by unfold cld; omega)).symm, rfl⟩
    · refine z_iload_0 dX7_could_33 (n := 34) rfl ?_
      refine z_iconst dX7_could_34 (n := 35) rfl ?_
      refine z_icmp_eq dX7_could_35 (n := 38) (tg := 43) rfl (by decide) (by first | assumption | exact ⟨by omega, by omega⟩ | exact zb_zr _) (by first | assumption | exact ⟨by omega, by omega⟩ | exact zb_zr _) (fun c35 => ?_) (fun c35 => ?_)
      · refine z_iconst dX7_could_43 (n := 44) rfl ?_
        refine z_goto dX7_could_44 (n := 48) (by decide) ?_
        refine z_ret_z dX7_could_48 rfl (by first | exact Or.inl rfl | exact Or.inr rfl | exact zb_or _) ?_
        first | exact ⟨(zb_t (by unfold cld; omega)).symm, rfl⟩ | exact ⟨(zb_f (by unfold cld; omega)).symm, rfl⟩
      · refine z_iload_0 dX7_could_38 (n := 39) rfl ?_
        refine z_iconst dX7_could_39 (n := 40) rfl ?_
        refine z_icmp_ne dX7_could_40 (n := 43) (tg := 47) rfl (by decide) (by first | assumption | exact ⟨by omega, by omega⟩ | exact zb_zr _) (by first | assumption | exact ⟨by omega, by omega⟩ | exact zb_zr _) (fun c40 => ?_) (fun c40 => ?_)
        · refine z_iconst dX7_could_47 (n := 48) rfl ?_
          refine z_ret_z dX7_could_48 rfl (by first | exact Or.inl rfl | exact Or.inr rfl | exact zb_or _) ?_
          first | exact ⟨(zb_t (by unfold cld; omega)).symm, rfl⟩ | exact ⟨(zb_f (by unfold cld; omega)).symm, rfl⟩
        · refine z_iconst dX7_could_43 (n := 44) rfl ?_
          refine z_goto dX7_could_44 (n := 48) (by decide) ?_
          refine z_ret_z dX7_could_48 rfl (by first | exact Or.inl rfl | exact Or.inr rfl | exact zb_or _) ?_
          first | exact ⟨(zb_t (by unfold cld; omega)).symm, rfl⟩ | exact ⟨(zb_f (by unfold cld; omega)).symm, rfl⟩
  · skip
    refine z_by (1) (fun q1 => ?_) (fun q1_1 => ?_)
    · refine z_tsIn (off := 48) (tg := 49) dX7_could_1 (by first | assumption | exact ⟨by omega, by omega⟩ | exact zb_zr _) (by omega) (by omega) (by rw [q1]; rfl) (by decide) ?_
      refine z_iload_0 dX7_could_49 (n := 50) rfl ?_
      refine z_iconst dX7_could_50 (n := 51) rfl ?_
      refine z_icmp_ge dX7_could_51 (n := 54) (tg := 58) rfl (by decide) (by first | assumption | exact ⟨by omega, by omega⟩ | exact zb_zr _) (by first | assumption | exact ⟨by omega, by omega⟩ | exact zb_zr _) (fun c51 => ?_) (fun c51 => ?_)
      · refine z_iconst dX7_could_58 (n := 59) rfl ?_
        refine z_ret_z dX7_could_59 rfl (by first | exact Or.inl rfl | exact Or.inr rfl | exact zb_or _) ?_
        first | exact ⟨(zb_t (by unfold cld; omega)).symm, rfl⟩ | exact ⟨(zb_f (by unfold cld; omega)).symm, rfl⟩
      · refine z_iconst dX7_could_54 (n := 55) rfl ?_
        refine z_goto dX7_could_55 (n := 59) (by decide) ?_
        refine z_ret_z dX7_could_59 rfl (by first | exact Or.inl rfl | exact Or.inr rfl | exact zb_or _) ?_
        first | exact ⟨(zb_t (by unfold cld; omega)).symm, rfl⟩ | exact ⟨(zb_f (by unfold cld; omega)).symm, rfl⟩
    · skip
      refine z_by (2) (fun q1 => ?_) (fun q1_2 => ?_)
      · refine z_tsIn (off := 59) (tg := 60) dX7_could_1 (by first | assumption | exact ⟨by omega, by omega⟩ | exact zb_zr _) (by omega) (by omega) (by rw [q1]; rfl) (by decide) ?_
        refine z_iload_0 dX7_could_60 (n := 61) rfl ?_
        refine z_iconst dX7_could_61 (n := 62) rfl ?_
        refine z_icmp_ne dX7_could_62 (n := 65) (tg := 69) rfl (by decide) (by first | assumption | exact ⟨by omega, by omega⟩ | exact zb_zr _) (by first | assumption | exact ⟨by omega, by omega⟩ | exact zb_zr _) (fun c62 => ?_) (fun c62 => ?_)
        · refine z_iconst dX7_could_69 (n := 70) rfl ?_
          refine z_ret_z dX7_could_70 rfl (by first | exact Or.inl rfl | exact Or.inr rfl | exact zb_or _) ?_
          first | exact ⟨(zb_t (by unfold cld; omega)).symm, rfl⟩ | exact ⟨(zb_f (by unfold cld; omega)).symm, rfl⟩
        · refine z_iconst dX7_could_65 (n := 66) rfl ?_
          refine z_goto dX7_could_66 (n := 70) (by decide) ?_
          refine z_ret_z dX7_could_70 rfl (by first | exact Or.inl rfl | exact Or.inr rfl | exact zb_or _) ?_
          first | exact ⟨(zb_t (by unfold cld; omega)).symm, rfl⟩ | exact ⟨(zb_f (by unfold cld; omega)).symm, rfl⟩
      · skip
        refine z_tsOut (tg := 71) dX7_could_1 (by first | assumption | exact ⟨by omega, by omega⟩ | exact zb_zr _) (by omega) (by decide) ?_
        refine z_iload_0 dX7_could_71 (n := 72) rfl ?_
        refine z_iconst dX7_could_72 (n := 73) rfl ?_
        refine z_icmp_le dX7_could_73 (n := 76) (tg := 80) rfl (by decide) (by first | assumption | exact ⟨by omega, by omega⟩ | exact zb_zr _) (by first | assumption | exact ⟨by omega, by omega⟩ | exact zb_zr _) (fun c73 => ?_) (fun c73 => ?_)
        · refine z_iconst dX7_could_80 (n := 81) rfl ?_
          refine z_ret_z dX7_could_81 rfl (by first | exact Or.inl rfl | exact Or.inr rfl | exact zb_or _) ?_
          first | exact ⟨(zb_t (by unfold cld; omega)).symm, rfl⟩ | exact ⟨(zb_f (by unfold cld; omega)).symm, rfl⟩
        · refine z_iconst dX7_could_76 (n := 77) rfl ?_
          refine z_goto dX7_could_77 (n := 81) (by decide) ?_
          refine z_ret_z dX7_could_81 rfl (by first | exact Or.inl rfl | exact Or.inr rfl | exact zb_or _) ?_
          first | exact ⟨(zb_t (by unfold cld; omega)).symm, rfl⟩ | exact ⟨(zb_f (by unfold cld; omega)).symm, rfl⟩
def sAll (m : Int) (of wh co : Int → Int) (s k : Int) : Prop := ∀ n, 0 ≤ n → n < m → of n ≠ s ∨ zb (cld k (wh n)) = co n
noncomputable def srt (m : Int) (of wh co : Int → Int) (s : Int) : Nat → Int
  | 0 => 0
  | k + 1 => zor (srt m of wh co s k) (zb (sAll m of wh co s k) * 2 ^ k)
theorem srt_r (m : Int) (of wh co : Int → Int) (s : Int) : ∀ k, 0 ≤ srt m of wh co s k ∧ srt m of wh co s k < 2 ^ k := by
  intro k
  induction k with
  | zero => exact ⟨Int.le_refl 0, show (0 : Int) < 1 by decide⟩
  | succ k ih =>
    have hp := p2_pos k
    have e := p2_succ k
    have hm := zb_r (sAll m of wh co s k)
    have h1 : 0 ≤ zb (sAll m of wh co s k) * 2 ^ k := Int.mul_nonneg hm.1 (by omega)
    have h2 : zb (sAll m of wh co s k) * 2 ^ k ≤ 1 * 2 ^ k := Int.mul_le_mul_of_nonneg_right hm.2 (by omega)
    exact ⟨zor_0 _ _, zor_lt ih.1 h1 (by omega) (by omega)⟩
set_option maxHeartbeats 4000000 in
theorem li_X7_sorts {G : zG} {sz : zSz} {ar : zAr} {s k R : Int} {P : Option zV → zS → Prop} (hs : zr s) (hk0 : 0 ≤ k) (hk1 : k < 5) (hs0 : 0 ≤ sz 41 6) (hs1 : sz 41 6 ≤ 6) (hof : ∀ i, zr (ar 46 i)) (hwh : ∀ i, zr (ar 47 i)) (hco : ∀ i, ar 48 i = 0 ∨ ar 48 i = 1)
    (K : zWP G mX7_sorts 1 P 74 [some (zR 41), some (zI s), some (zI R), some (zI k), some (zI (zb (sAll (sz 41 6) (ar 46) (ar 47) (ar 48) s k))), some (zI (sz 41 6))] [] (X sz ar)) :
    ∀ (m : Nat) (n : Int), 0 ≤ n → n + m = sz 41 6 → zWP G mX7_sorts 1 P 15 [some (zR 41), some (zI s), some (zI R), some (zI k), some (zI (zb (sAll n (ar 46) (ar 47) (ar 48) s k))), some (zI n)] [] (X sz ar) := by
  intro m
  induction m with
  | zero =>
    intro n hn0 hn
    have en : n = sz 41 6 := by omega
    subst en
    refine z_iload_5 dX7_sorts_15 (n := 17) rfl ?_
    refine z_aload_0 dX7_sorts_17 (n := 18) rfl ?_
    refine z_get dX7_sorts_18 (n := 21) rfl rfl fd_X7_99 rfl ?_
    refine z_icmp_ge dX7_sorts_21 (n := 24) (tg := 74) rfl (by decide) (by first | assumption | exact ⟨by omega, by omega⟩ | exact zb_zr _) (by first | assumption | exact ⟨by omega, by omega⟩ | exact zb_zr _) (fun c21 => ?_) (fun c21 => ?_)
    · exact K
    · exfalso; omega
  | succ m ih =>
    intro n hn0 hn
    have h9 := ih (n + 1) (by omega) (by omega)
    have hcn := hco n
    have hcz : zr (ar 48 n) := ⟨by omega, by omega⟩
    refine z_iload_5 dX7_sorts_15 (n := 17) rfl ?_
    refine z_aload_0 dX7_sorts_17 (n := 18) rfl ?_
    refine z_get dX7_sorts_18 (n := 21) rfl rfl fd_X7_99 rfl ?_
    refine z_icmp_ge dX7_sorts_21 (n := 24) (tg := 74) rfl (by decide) (by first | exact hof _ | exact hwh _ | assumption | exact ⟨by omega, by omega⟩ | exact zb_zr _) (by first | exact hof _ | exact hwh _ | assumption | exact ⟨by omega, by omega⟩ | exact zb_zr _) (fun c21 => ?_) (fun c21 => ?_)
    · exfalso; omega
    · refine z_iload_4 dX7_sorts_24 (n := 26) rfl ?_
      refine z_ifB_eq dX7_sorts_26 (n := 29) (tg := 65) rfl (by decide) (fun c26 => ?_) (fun c26 => ?_)
      · rw [zb_f (p := sAll (n + 1) (ar 46) (ar 47) (ar 48) s k) (fun z => c26 (fun i a b => z i a (by omega)))] at h9
        refine z_iconst dX7_sorts_65 (n := 66) rfl ?_
        refine z_istore_4 dX7_sorts_66 (n := 68) rfl (by decide) (fun w h => by cases h; try rfl) ?_
        refine z_iinc_5 dX7_sorts_68 (n := 71) rfl (by decide) (fun w h => by cases h; try rfl) ?_
        refine z_goto dX7_sorts_71 (n := 15) (by decide) ?_
        exact h9
      · refine z_aload_0 dX7_sorts_29 (n := 30) rfl ?_
        refine z_get dX7_sorts_30 (n := 33) rfl rfl fd_X7_22 rfl ?_
        refine z_iload_5 dX7_sorts_33 (n := 35) rfl ?_
        refine z_iald dX7_sorts_35 (n := 36) rfl rfl (by omega) (by omega) (by decide) ?_
        refine z_iload_1 dX7_sorts_36 (n := 37) rfl ?_
        refine z_icmp_ne dX7_sorts_37 (n := 40) (tg := 61) rfl (by decide) (by first | exact hof _ | exact hwh _ | assumption | exact ⟨by omega, by omega⟩ | exact zb_zr _) (by first | exact hof _ | exact hwh _ | assumption | exact ⟨by omega, by omega⟩ | exact zb_zr _) (fun c37 => ?_) (fun c37 => ?_)
        · rw [zb_t (p := sAll (n + 1) (ar 46) (ar 47) (ar 48) s k) (fun i a b => by by_cases e : i = n; (rw [e]; exact Or.inl c37); exact c26 i a (by omega))] at h9
          refine z_iconst dX7_sorts_61 (n := 62) rfl ?_
          refine z_goto dX7_sorts_62 (n := 66) (by decide) ?_
          refine z_istore_4 dX7_sorts_66 (n := 68) rfl (by decide) (fun w h => by cases h; try rfl) ?_
          refine z_iinc_5 dX7_sorts_68 (n := 71) rfl (by decide) (fun w h => by cases h; try rfl) ?_
          refine z_goto dX7_sorts_71 (n := 15) (by decide) ?_
          exact h9
        · refine z_iload_3 dX7_sorts_40 (n := 41) rfl ?_
          refine z_aload_0 dX7_sorts_41 (n := 42) rfl ?_
          refine z_get dX7_sorts_42 (n := 45) rfl rfl fd_X7_25 rfl ?_
          refine z_iload_5 dX7_sorts_45 (n := 47) rfl ?_
          refine z_iald dX7_sorts_47 (n := 48) rfl rfl (by omega) (by omega) (by decide) ?_
          refine z_callS2i dX7_sorts_48 (n := 51) rfl ms_X7_could lk_X7_147 (zrm (by decide) (by decide)) (Nat.le_of_ble_eq_true rfl) (c_X7_could (by first | exact hof _ | exact hwh _ | assumption | exact ⟨by omega, by omega⟩ | exact zb_zr _) (hwh _)) (fun r u hp => ?_)
          obtain ⟨rfl, rfl⟩ := hp
          refine z_aload_0 dX7_sorts_51 (n := 52) rfl ?_
          refine z_get dX7_sorts_52 (n := 55) rfl rfl fd_X7_28 rfl ?_
          refine z_iload_5 dX7_sorts_55 (n := 57) rfl ?_
          refine z_zald dX7_sorts_57 (n := 58) rfl rfl (by omega) (by omega) (by decide) ?_
          refine z_icmp_ne dX7_sorts_58 (n := 61) (tg := 65) rfl (by decide) (by first | exact hof _ | exact hwh _ | assumption | exact ⟨by omega, by omega⟩ | exact zb_zr _) (by first | exact hof _ | exact hwh _ | assumption | exact ⟨by omega, by omega⟩ | exact zb_zr _) (fun c58 => ?_) (fun c58 => ?_)
          · rw [zb_f (p := sAll (n + 1) (ar 46) (ar 47) (ar 48) s k) (fun z => (z n hn0 (by omega)).elim (fun y => y c37) c58)] at h9
            refine z_iconst dX7_sorts_65 (n := 66) rfl ?_
            refine z_istore_4 dX7_sorts_66 (n := 68) rfl (by decide) (fun w h => by cases h; try rfl) ?_
            refine z_iinc_5 dX7_sorts_68 (n := 71) rfl (by decide) (fun w h => by cases h; try rfl) ?_
            refine z_goto dX7_sorts_71 (n := 15) (by decide) ?_
            exact h9
          · rw [zb_t (p := sAll (n + 1) (ar 46) (ar 47) (ar 48) s k) (fun i a b => by by_cases e : i = n; (rw [e]; exact Or.inr c58); exact c26 i a (by omega))] at h9
            refine z_iconst dX7_sorts_61 (n := 62) rfl ?_
            refine z_goto dX7_sorts_62 (n := 66) (by decide) ?_
            refine z_istore_4 dX7_sorts_66 (n := 68) rfl (by decide) (fun w h => by cases h; try rfl) ?_
            refine z_iinc_5 dX7_sorts_68 (n := 71) rfl (by decide) (fun w h => by cases h; try rfl) ?_
            refine z_goto dX7_sorts_71 (n := 15) (by decide) ?_
            exact h9
set_option maxHeartbeats 4000000 in
theorem c_X7_sorts {G : zG} {sz : zSz} {ar : zAr} {s : Int} (hs : zr s) (hs0 : 0 ≤ sz 41 6) (hs1 : sz 41 6 ≤ 6) (hof : ∀ i, zr (ar 46 i)) (hwh : ∀ i, zr (ar 47 i)) (hco : ∀ i, ar 48 i = 0 ∨ ar 48 i = 1)  : zSem G mX7_sorts 1 [zR 41, zI s] (X sz ar) (zpi fun r u => r = srt (sz 41 6) (ar 46) (ar 47) (ar 48) s 5 ∧ u = X sz ar) := by
  refine z_enter (L' := [some (zR 41), some (zI s), none, none, none, none]) (by decide +kernel) (Nat.le_of_ble_eq_true rfl) ⟨4, rfl⟩ ?_
  have HO : ∀ (m k : Nat), k + m = 5 → ∀ y x, zWP G mX7_sorts 1 (zpi fun r u => r = srt (sz 41 6) (ar 46) (ar 47) (ar 48) s 5 ∧ u = X sz ar) 4 [some (zR 41), some (zI s), some (zI (srt (sz 41 6) (ar 46) (ar 47) (ar 48) s k)), some (zI k), y, x] [] (X sz ar) := by
    intro m
    induction m with
    | zero =>
      intro k hk y x
      have ek : k = 5 := by omega
      subst ek
      refine z_iload_3 dX7_sorts_4 (n := 5) rfl ?_
      refine z_iconst dX7_sorts_5 (n := 6) rfl ?_
      refine z_icmp_ge dX7_sorts_6 (n := 9) (tg := 95) rfl (by decide) (by first | assumption | exact ⟨by omega, by omega⟩ | exact zb_zr _) (by first | assumption | exact ⟨by omega, by omega⟩ | exact zb_zr _) (fun c6 => ?_) (fun c6 => ?_)
      · refine z_iload_2 dX7_sorts_95 (n := 96) rfl ?_
        refine z_ret_i dX7_sorts_96 rfl ?_
        exact ⟨rfl, rfl⟩
      · exfalso; omega
    | succ m ih =>
      intro k hk y x
      have hr := srt_r (sz 41 6) (ar 46) (ar 47) (ar 48) s k
      have hp := p2_pos k
      have h9 := ih (k + 1) (by omega) (some (zI (zb (sAll (sz 41 6) (ar 46) (ar 47) (ar 48) s k)))) (some (zI (sz 41 6)))
      rw [show ((k + 1 : Nat) : Int) = (k : Int) + 1 by omega, show srt (sz 41 6) (ar 46) (ar 47) (ar 48) s (k + 1) = zor (srt (sz 41 6) (ar 46) (ar 47) (ar 48) s k) (zb (sAll (sz 41 6) (ar 46) (ar 47) (ar 48) s k) * 2 ^ k) from rfl] at h9
      have h7 := li_X7_sorts (G := G) (sz := sz) (ar := ar) (s := s) (k := k) (R := srt (sz 41 6) (ar 46) (ar 47) (ar 48) s k) (P := zpi fun r u => r = srt (sz 41 6) (ar 46) (ar 47) (ar 48) s 5 ∧ u = X sz ar) hs (by omega) (by omega) hs0 hs1 hof hwh hco ?_ (sz 41 6).toNat 0 (by omega) (by omega)
      · rw [zb_t (p := sAll 0 (ar 46) (ar 47) (ar 48) s k) (fun i a b => by omega)] at h7
        refine z_iload_3 dX7_sorts_4 (n := 5) rfl ?_
        refine z_iconst dX7_sorts_5 (n := 6) rfl ?_
        refine z_icmp_ge dX7_sorts_6 (n := 9) (tg := 95) rfl (by decide) (by first | assumption | exact ⟨by omega, by omega⟩ | exact zb_zr _) (by first | assumption | exact ⟨by omega, by omega⟩ | exact zb_zr _) (fun c6 => ?_) (fun c6 => ?_)
        · exfalso; omega
        · refine z_iconst dX7_sorts_9 (n := 10) rfl ?_
          refine z_istore_4 dX7_sorts_10 (n := 12) rfl (by decide) (fun w h => by cases h; try rfl) ?_
          refine z_iconst dX7_sorts_12 (n := 13) rfl ?_
          refine z_istore_5 dX7_sorts_13 (n := 15) rfl (by decide) (fun w h => by cases h; try rfl) ?_
          exact h7
      · have ek : ((k : Int)).toNat = k := rfl
        have h1p : 0 ≤ 1 * (2 : Int) ^ k := by omega
        refine z_iload_2 dX7_sorts_74 (n := 75) rfl ?_
        refine z_iload_4 dX7_sorts_75 (n := 77) rfl ?_
        refine z_ifB_eq dX7_sorts_77 (n := 80) (tg := 86) rfl (by decide) (fun c77 => ?_) (fun c77 => ?_)
        · rw [zb_f c77, Int.zero_mul] at h9
          rw [zb_f c77]
          refine z_iconst dX7_sorts_86 (n := 87) rfl ?_
          refine z_ior dX7_sorts_87 (n := 88) rfl (by first | assumption | omega) (by first | assumption | omega) ?_
          refine z_istore_2 dX7_sorts_88 (n := 89) rfl (by decide) (fun w h => by cases h; try rfl) ?_
          refine z_iinc_3 dX7_sorts_89 (n := 92) rfl (by decide) (fun w h => by cases h; try rfl) ?_
          refine z_goto dX7_sorts_92 (n := 4) (by decide) ?_
          exact h9
        · rw [zb_t c77] at h9
          rw [zb_t c77]
          refine z_iconst dX7_sorts_80 (n := 81) rfl ?_
          refine z_iload_3 dX7_sorts_81 (n := 82) rfl ?_
          refine z_ishl dX7_sorts_82 (n := 83) rfl (by first | assumption | omega) (by first | assumption | omega) ?_
          refine z_goto dX7_sorts_83 (n := 87) (by decide) ?_
          refine z_ior dX7_sorts_87 (n := 88) rfl (by first | assumption | omega) (by first | assumption | omega) ?_
          refine z_istore_2 dX7_sorts_88 (n := 89) rfl (by decide) (fun w h => by cases h; try rfl) ?_
          refine z_iinc_3 dX7_sorts_89 (n := 92) rfl (by decide) (fun w h => by cases h; try rfl) ?_
          refine z_goto dX7_sorts_92 (n := 4) (by decide) ?_
          exact h9
  refine z_iconst dX7_sorts_0 (n := 1) rfl ?_
  refine z_istore_2 dX7_sorts_1 (n := 2) rfl (by decide) (fun w h => by cases h; try rfl) ?_
  refine z_iconst dX7_sorts_2 (n := 3) rfl ?_
  refine z_istore_3 dX7_sorts_3 (n := 4) rfl (by decide) (fun w h => by cases h; try rfl) ?_
  exact HO 5 0 rfl none none
