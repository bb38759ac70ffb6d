/-! the reference: whether a word is nothing; what is done -/
theorem addW_len (fs : List (List Int)) (w : List Int) : fs.length ≤ (addW fs w).length := by
  unfold addW
  split
  · exact Nat.le_refl _
  · split
    · exact Nat.le_refl _
    · simp
theorem addW_get {fs : List (List Int)} {w : List Int} {i : Nat} (h : i < fs.length) : (addW fs w).getD i [] = fs.getD i [] := by
  unfold addW
  split
  · rfl
  · split
    · rfl
    · rw [List.getD_eq_getElem?_getD, List.getElem?_append_left h, ← List.getD_eq_getElem?_getD]
theorem LL.l {fs : List (List Int)} {sz sz' : zSz} {ar ar' : zAr} (h : LL fs sz ar) (hF : Fm sz ar sz' ar') : LL fs sz' ar' := h.m hF
set_option maxHeartbeats 8000000 in
theorem lo_X7_isNothing {G : zG} {sz : zSz} {ar : zAr} (hM : MOK (sz 41 0) (ar 42) (ar 43)) :
    ∀ (m i : Nat) (fs : List (List Int)) (sz' : zSz) (ar' : zAr) (y : Option zV), i + m = 40 → LL fs sz' ar' → Wok (sz 41 0) fs → Mg sz ar sz' ar' →
    zWP G mX7_isNothing 3 (zpi fun r u => r = bfs (ar 42) (ar 43) m fs i ∧ ∃ sz' ar', u = X sz' ar' ∧ Mg sz ar sz' ar') 11 [some (zR 41), some (zI i), y] [] (X sz' ar') := by
  have hn6 := hM.2.1
  intro m
  induction m with
  | zero =>
    intro i fs sz' ar' y hi hLL hW hF
    have hs := hLL.1
    have hlen := hW.1
    refine z_iload_1 dX7_isNothing_11 (n := 12) rfl ?_
    refine z_aload_0 dX7_isNothing_12 (n := 13) rfl ?_
    refine z_get dX7_isNothing_13 (n := 16) rfl rfl fd_X7_193 rfl ?_
    refine z_icmp_ge dX7_isNothing_16 (n := 19) (tg := 66) rfl (by decide) (by first | assumption | exact ⟨by omega, by omega⟩ | exact zb_zr _) (by first | assumption | exact ⟨by omega, by omega⟩ | exact zb_zr _) (fun c16 => ?_) (fun c16 => ?_)
    · rw [show bfs (ar 42) (ar 43) 0 fs i = 1 from if_neg (by omega)]
      refine z_iconst dX7_isNothing_66 (n := 67) rfl ?_
      refine z_ret_i dX7_isNothing_67 rfl ?_
      exact ⟨rfl, _, _, rfl, hF⟩
    · rw [show bfs (ar 42) (ar 43) 0 fs i = -1 from if_pos (by omega)]
      refine z_iload_1 dX7_isNothing_19 (n := 20) rfl ?_
      refine z_bipush dX7_isNothing_20 (n := 22) rfl (by decide) ?_
      refine z_icmp_ne dX7_isNothing_22 (n := 25) (tg := 27) rfl (by decide) (by first | assumption | exact ⟨by omega, by omega⟩ | exact zb_zr _) (by first | assumption | exact ⟨by omega, by omega⟩ | exact zb_zr _) (fun c22 => ?_) (fun c22 => ?_)
      · exfalso; omega
      · refine z_iconst dX7_isNothing_25 (n := 26) rfl ?_
        refine z_ret_i dX7_isNothing_26 rfl ?_
        exact ⟨rfl, _, _, rfl, hF⟩
  | succ m ih =>
    intro i fs sz' ar' y hi hLL hW hF
    have hs := hLL.1
    have hlen := hW.1
    obtain ⟨hM', e0, e42, e43⟩ := hF.M hM
    refine z_iload_1 dX7_isNothing_11 (n := 12) rfl ?_
    refine z_aload_0 dX7_isNothing_12 (n := 13) rfl ?_
    refine z_get dX7_isNothing_13 (n := 16) rfl rfl fd_X7_193 rfl ?_
    refine z_icmp_ge dX7_isNothing_16 (n := 19) (tg := 66) rfl (by decide) (by first | assumption | exact ⟨by omega, by omega⟩ | exact zb_zr _) (by first | assumption | exact ⟨by omega, by omega⟩ | exact zb_zr _) (fun c16 => ?_) (fun c16 => ?_)
    · rw [show bfs (ar 42) (ar 43) (m + 1) fs i = 1 by rw [bfs, if_neg (by omega), if_neg (by omega)]]
      refine z_iconst dX7_isNothing_66 (n := 67) rfl ?_
      refine z_ret_i dX7_isNothing_67 rfl ?_
      exact ⟨rfl, _, _, rfl, hF⟩
    · have hil : i < fs.length := by omega
      have hwi := hW.2 _ (getD_mem hil)
      have hY := hLL.2 i hil
      have so0 := sec_ok hM hwi.1 (b := 0) (by omega) (by omega)
      have so1 := sec_ok hM hwi.1 (b := 1) (by omega) (by omega)
      refine z_iload_1 dX7_isNothing_19 (n := 20) rfl ?_
      refine z_bipush dX7_isNothing_20 (n := 22) rfl (by decide) ?_
      refine z_icmp_ne dX7_isNothing_22 (n := 25) (tg := 27) rfl (by decide) (by first | assumption | exact ⟨by omega, by omega⟩ | exact zb_zr _) (by first | assumption | exact ⟨by omega, by omega⟩ | exact zb_zr _) (fun c22 => ?_) (fun c22 => ?_)
      · refine z_aload_0 dX7_isNothing_27 (n := 28) rfl ?_
        refine z_iload_1 dX7_isNothing_28 (n := 29) rfl ?_
        refine z_callV1i dX7_isNothing_29 (n := 32) rfl mv_X7_isFlipping lk_X7_202 rfl (zrm (by decide) (by decide)) (Nat.le_of_ble_eq_true rfl) (c_X7_isFlipping (by omega) (by omega) hM' hY (by rw [e0]; exact hwi.1) hwi.2) (fun r u hp => ?_)
        obtain ⟨rfl, rfl⟩ := hp
        rw [e42]
        refine z_ifB_eq dX7_isNothing_32 (n := 35) (tg := 37) rfl (by decide) (fun c32 => ?_) (fun c32 => ?_)
        · rw [bfs_go hil c32]
          refine z_iconst dX7_isNothing_37 (n := 38) rfl ?_
          refine z_istore_2 dX7_isNothing_38 (n := 39) rfl (by decide) (fun w h => by cases h; try rfl) ?_
          refine z_iload_2 dX7_isNothing_39 (n := 40) rfl ?_
          refine z_iconst dX7_isNothing_40 (n := 41) rfl ?_
          refine z_icmp_ge dX7_isNothing_41 (n := 44) (tg := 60) rfl (by decide) (by first | assumption | exact ⟨by omega, by omega⟩ | exact zb_zr _) (by first | assumption | exact ⟨by omega, by omega⟩ | exact zb_zr _) (fun c41 => ?_) (fun c41 => ?_)
          · exfalso; omega
          · refine z_aload_0 dX7_isNothing_44 (n := 45) rfl ?_
            refine z_iload_1 dX7_isNothing_45 (n := 46) rfl ?_
            refine z_iload_2 dX7_isNothing_46 (n := 47) rfl ?_
            refine z_callV2v dX7_isNothing_47 (n := 50) rfl mv_X7_makeSection lk_X7_205 rfl (zrm (by decide) (by decide)) (Nat.le_of_ble_eq_true rfl) (c_X7_makeSection (by omega) (by omega) hM' hY (by rw [e0]; exact hwi.1) hwi.2 (by omega) (by omega)) (fun u hp => ?_)
            obtain ⟨sz2, ar2, rfl, hL2, hF2⟩ := hp
            rw [e42, e43] at hL2
            have hLL2 := hLL.m hF2
            refine z_aload_0 dX7_isNothing_50 (n := 51) rfl ?_
            refine z_callV0v dX7_isNothing_51 (n := 54) rfl mv_X7_enlist lk_X7_199 rfl (zrm (by decide) (by decide)) (Nat.le_of_ble_eq_true rfl) (c_X7_enlist (n := sz 41 0) hn6 hL2 so0.1 (by omega) hLL2 hW) (fun u hp => ?_)
            obtain ⟨sz3, ar3, rfl, hLL3, hF3⟩ := hp
            have hW3 := hW.add so0.1 (by omega)
            have hG3 := (hF.tr hF2.g).tr hF3.g
            obtain ⟨hM3, e03, e423, e433⟩ := hG3.M hM
            have hY3 : LR (ar3 51 i) (fun k => ar3 52 (128 * i + k)) (fs.getD i []) := by
              have h7 := hLL3.2 i (by have h6 := addW_len fs (sec (ar 42) (ar 43) (fs.getD i []) 0); omega)
              rw [addW_get hil] at h7
              exact h7
            refine z_iinc_2 dX7_isNothing_54 (n := 57) rfl (by decide) (fun w h => by cases h; try rfl) ?_
            refine z_goto dX7_isNothing_57 (n := 39) (by decide) ?_
            rw [show (0 : Int) + 1 = 1 from rfl]
            refine z_iload_2 dX7_isNothing_39 (n := 40) rfl ?_
            refine z_iconst dX7_isNothing_40 (n := 41) rfl ?_
            refine z_icmp_ge dX7_isNothing_41 (n := 44) (tg := 60) rfl (by decide) (by first | assumption | exact ⟨by omega, by omega⟩ | exact zb_zr _) (by first | assumption | exact ⟨by omega, by omega⟩ | exact zb_zr _) (fun c41 => ?_) (fun c41 => ?_)
            · exfalso; omega
            · refine z_aload_0 dX7_isNothing_44 (n := 45) rfl ?_
              refine z_iload_1 dX7_isNothing_45 (n := 46) rfl ?_
              refine z_iload_2 dX7_isNothing_46 (n := 47) rfl ?_
              refine z_callV2v dX7_isNothing_47 (n := 50) rfl mv_X7_makeSection lk_X7_205 rfl (zrm (by decide) (by decide)) (Nat.le_of_ble_eq_true rfl) (c_X7_makeSection (by omega) (by omega) hM3 hY3 (by rw [e03]; exact hwi.1) hwi.2 (by omega) (by omega)) (fun u hp => ?_)
              obtain ⟨sz4, ar4, rfl, hL4, hF4⟩ := hp
              rw [e423, e433] at hL4
              have hLL4 := hLL3.m hF4
              refine z_aload_0 dX7_isNothing_50 (n := 51) rfl ?_
              refine z_callV0v dX7_isNothing_51 (n := 54) rfl mv_X7_enlist lk_X7_199 rfl (zrm (by decide) (by decide)) (Nat.le_of_ble_eq_true rfl) (c_X7_enlist (n := sz 41 0) hn6 hL4 so1.1 (by omega) hLL4 hW3) (fun u hp => ?_)
              obtain ⟨sz5, ar5, rfl, hLL5, hF5⟩ := hp
              have hW5 := hW3.add so1.1 (by omega)
              have hG5 := (hG3.tr hF4.g).tr hF5.g
              refine z_iinc_2 dX7_isNothing_54 (n := 57) rfl (by decide) (fun w h => by cases h; try rfl) ?_
              refine z_goto dX7_isNothing_57 (n := 39) (by decide) ?_
              rw [show (1 : Int) + 1 = 2 from rfl]
              refine z_iload_2 dX7_isNothing_39 (n := 40) rfl ?_
              refine z_iconst dX7_isNothing_40 (n := 41) rfl ?_
              refine z_icmp_ge dX7_isNothing_41 (n := 44) (tg := 60) rfl (by decide) (by first | assumption | exact ⟨by omega, by omega⟩ | exact zb_zr _) (by first | assumption | exact ⟨by omega, by omega⟩ | exact zb_zr _) (fun c41 => ?_) (fun c41 => ?_)
              · refine z_iinc_1 dX7_isNothing_60 (n := 63) rfl (by decide) (fun w h => by cases h; try rfl) ?_
                refine z_goto dX7_isNothing_63 (n := 11) (by decide) ?_
                have h9 := ih (i + 1) _ sz5 ar5 (some (zI 2)) (by omega) hLL5 hW5 hG5
                rw [show ((i + 1 : Nat) : Int) = (i : Int) + 1 by omega] at h9
                exact h9
              · exfalso; omega
        · rw [show bfs (ar 42) (ar 43) (m + 1) fs i = 0 by rw [bfs, if_pos hil, if_pos c32]]
          refine z_iconst dX7_isNothing_35 (n := 36) rfl ?_
          refine z_ret_i dX7_isNothing_36 rfl ?_
          exact ⟨rfl, _, _, rfl, hF⟩
      · exfalso; omega
set_option maxHeartbeats 4000000 in
theorem c_X7_isNothing {G : zG} {sz : zSz} {ar : zAr} {xs : List Int} (hM : MOK (sz 41 0) (ar 42) (ar 43)) (hL : LR (sz 41 12) (ar 50) xs) (hx : Lt (sz 41 0) xs) (hxc : xs.length ≤ 128)  : zSem G mX7_isNothing 3 [zR 41] (X sz ar) (zpi fun r u => r = ntw (ar 42) (ar 43) xs ∧ ∃ sz' ar', u = X sz' ar' ∧ Mg sz ar sz' ar') := by
  refine z_enter (L' := [some (zR 41), none, none]) (by decide +kernel) (Nat.le_of_ble_eq_true rfl) ⟨2, rfl⟩ ?_
  have hn6 := hM.2.1
  have hF0 : Mg sz ar (zz sz 41 14 0) ar := ⟨fun j hj => zz_ne hj, fun i _ hi _ => zz_ni hi, fun _ _ => rfl⟩
  have hL0 : LL [] (zz sz 41 14 0) ar := ⟨by rw [zz_eq]; rfl, fun p hp => by cases hp⟩
  have hW0 : Wok (sz 41 0) [] := ⟨by simp, fun w h => by cases h⟩
  refine z_aload_0 dX7_isNothing_0 (n := 1) rfl ?_
  refine z_iconst dX7_isNothing_1 (n := 2) rfl ?_
  refine z_putX dX7_isNothing_2 (n := 5) rfl rfl fw_X7_193 (by first | decide | simp) rfl ?_
  refine z_aload_0 dX7_isNothing_5 (n := 6) rfl ?_
  refine z_callV0v dX7_isNothing_6 (n := 9) rfl mv_X7_enlist lk_X7_199 rfl (zrm (by decide) (by decide)) (Nat.le_of_ble_eq_true rfl) (c_X7_enlist (n := sz 41 0) hn6 (by rw [zz_ni (by decide)]; exact hL) hx hxc hL0 hW0) (fun u hp => ?_)
  obtain ⟨sz2, ar2, rfl, hLL2, hF2⟩ := hp
  refine z_iconst dX7_isNothing_9 (n := 10) rfl ?_
  refine z_istore_1 dX7_isNothing_10 (n := 11) rfl (by decide) (fun w h => by cases h; try rfl) ?_
  exact lo_X7_isNothing hM 40 0 [xs] sz2 ar2 none (by omega) hLL2 (hW0.add hx hxc) (hF0.tr hF2.g)
def RD (ws : Int → List Int) : Prop := ∀ w : Int, 0 ≤ w → w < 3 → (ws w).foldl red [] = ws w
theorem Mg.W {w : Int} {xs : List Int} {sz sz' : zSz} {ar ar' : zAr} (hF : Mg sz ar sz' ar') (h : LR (ar 44 w) (fun k => ar 45 (16 * w + k)) xs) : LR (ar' 44 w) (fun k => ar' 45 (16 * w + k)) xs := by
  rw [hF.2.2 44 (by omega), hF.2.2 45 (by omega)]
  exact h
set_option maxHeartbeats 4000000 in
theorem c_X7_nothingOf {G : zG} {sz : zSz} {ar : zAr} {ws : Int → List Int} {w : Int} (hC : MK ws sz ar) (hR : RD ws) (h0 : 0 ≤ w) (h1 : w < 3)  : zSem G mX7_nothingOf 4 [zR 41, zI w] (X sz ar) (zpi fun r u => r = ntw (ar 42) (ar 43) (ws w) ∧ ∃ sz' ar', u = X sz' ar' ∧ Mg sz ar sz' ar') := by
  refine z_enter (L' := [some (zR 41), some (zI w)]) (by decide +kernel) (Nat.le_of_ble_eq_true rfl) ⟨0, rfl⟩ ?_
  have hn6 := hC.1.2.1
  have hW := hC.2.2.1 w h0 h1
  have hr := hR w h0 h1
  refine z_aload_0 dX7_nothingOf_0 (n := 1) rfl ?_
  refine z_callV0v dX7_nothingOf_1 (n := 4) rfl mv_X7_begin lk_X7_118 rfl (zrm (by decide) (by decide)) (Nat.le_of_ble_eq_true rfl) (c_X7_begin) (fun u hp => ?_)
  obtain ⟨sz1, ar1, rfl, hL1, hF1⟩ := hp
  refine z_aload_0 dX7_nothingOf_4 (n := 5) rfl ?_
  refine z_iload_1 dX7_nothingOf_5 (n := 6) rfl ?_
  refine z_callV1v dX7_nothingOf_6 (n := 9) rfl mv_X7_comesWord lk_X7_209 rfl (zrm (by decide) (by decide)) (Nat.le_of_ble_eq_true rfl) (c_X7_comesWord h0 h1 (hF1.g.W hW.1) (hW.2.1.Ls hn6) hW.2.2 hL1 Ls.nil (by simp; omega)) (fun u hp => ?_)
  obtain ⟨sz2, ar2, rfl, hL2, hF2⟩ := hp
  have hG2 := (hF1.tr hF2).g
  obtain ⟨hM2, e0, e42, e43⟩ := hG2.M hC.1
  rw [hr] at hL2
  refine z_aload_0 dX7_nothingOf_9 (n := 10) rfl ?_
  refine z_callV0i dX7_nothingOf_10 (n := 13) rfl mv_X7_isNothing lk_X7_212 rfl (zrm (by decide) (by decide)) (Nat.le_of_ble_eq_true rfl) (c_X7_isNothing hM2 hL2 (by rw [e0]; exact hW.2.1) (by omega)) (fun r u hp => ?_)
  obtain ⟨rfl, sz3, ar3, rfl, hG3⟩ := hp
  rw [e42, e43]
  refine z_ret_i dX7_nothingOf_13 rfl ?_
  exact ⟨rfl, _, _, rfl, hG2.tr hG3⟩
set_option maxHeartbeats 4000000 in
theorem c_X7_nothing {G : zG} {sz : zSz} {ar : zAr} {ws : Int → List Int} {w : Int} (hw : zr w) (hC : MK ws sz ar) (hR : RD ws)  : zSem G mX7_nothing 5 [zR 41, zI w] (X sz ar) (zpi fun r u => r = (if ¬ (0 ≤ w ∧ w < 3 ∧ 0 < sz 41 0) then -101 else ntw (ar 42) (ar 43) (ws w)) ∧ ∃ sz' ar', u = X sz' ar' ∧ Mg sz ar sz' ar') := by
  refine z_enter (L' := [some (zR 41), some (zI w)]) (by decide +kernel) (Nat.le_of_ble_eq_true rfl) ⟨0, rfl⟩ ?_
  have hn := hC.1.1
  have hn6 := hC.1.2.1
  refine z_aload_0 dX7_nothing_0 (n := 1) rfl ?_
  refine z_iload_1 dX7_nothing_1 (n := 2) rfl ?_
  refine z_callV1i dX7_nothing_2 (n := 5) rfl mv_X7_isWord lk_X7_112 rfl (zrm (by decide) (by decide)) (Nat.le_of_ble_eq_true rfl) (c_X7_isWord (by first | assumption | exact ⟨by omega, by omega⟩ | exact zb_zr _) (by first | assumption | exact ⟨by omega, by omega⟩ | exact zb_zr _)) (fun r u hp => ?_)
  obtain ⟨rfl, rfl⟩ := hp
  refine z_ifB_eq dX7_nothing_5 (n := 8) (tg := 16) rfl (by decide) (fun c5 => ?_) (fun c5 => ?_)
  · rw [if_pos c5]
    have hG9 : Mg sz ar sz ar := Mg.rf
    refine z_bipush dX7_nothing_16 (n := 18) rfl (by decide) ?_
    refine z_ret_i dX7_nothing_18 rfl ?_
    exact ⟨rfl, _, _, rfl, hG9⟩
  · rw [if_neg (fun z => z c5)]
    refine z_aload_0 dX7_nothing_8 (n := 9) rfl ?_
    refine z_iload_1 dX7_nothing_9 (n := 10) rfl ?_
    refine z_callV1i dX7_nothing_10 (n := 13) rfl mv_X7_nothingOf lk_X7_215 rfl (zrm (by decide) (by decide)) (Nat.le_of_ble_eq_true rfl) (c_X7_nothingOf hC hR c5.1 c5.2.1) (fun r u hp => ?_)
    obtain ⟨rfl, sz3, ar3, rfl, hG9⟩ := hp
    refine z_goto dX7_nothing_13 (n := 18) (by decide) ?_
    refine z_ret_i dX7_nothing_18 rfl ?_
    exact ⟨rfl, _, _, rfl, hG9⟩
set_option maxHeartbeats 4000000 in
theorem c_X7_alike {G : zG} {sz : zSz} {ar : zAr} {ws : Int → List Int} {a b : Int} (ha : zr a) (hb : zr b) (hC : MK ws sz ar) (hR : RD ws)  : zSem G mX7_alike 5 [zR 41, zI a, zI b] (X sz ar) (zpi fun r u => r = (if ¬ (0 ≤ a ∧ a < 3 ∧ 0 < sz 41 0) ∨ ¬ (0 ≤ b ∧ b < 3 ∧ 0 < sz 41 0) then -101 else ntw (ar 42) (ar 43) ((undone (ws b)).foldl red (ws a))) ∧ ∃ sz' ar', u = X sz' ar' ∧ Mg sz ar sz' ar') := by
  refine z_enter (L' := [some (zR 41), some (zI a), some (zI b)]) (by decide +kernel) (Nat.le_of_ble_eq_true rfl) ⟨0, rfl⟩ ?_
  have hn := hC.1.1
  have hn6 := hC.1.2.1
  refine z_aload_0 dX7_alike_0 (n := 1) rfl ?_
  refine z_iload_1 dX7_alike_1 (n := 2) rfl ?_
  refine z_callV1i dX7_alike_2 (n := 5) rfl mv_X7_isWord lk_X7_112 rfl (zrm (by decide) (by decide)) (Nat.le_of_ble_eq_true rfl) (c_X7_isWord (by first | assumption | exact ⟨by omega, by omega⟩ | exact zb_zr _) (by first | assumption | exact ⟨by omega, by omega⟩ | exact zb_zr _)) (fun r u hp => ?_)
  obtain ⟨rfl, rfl⟩ := hp
  refine z_ifB_eq dX7_alike_5 (n := 8) (tg := 16) rfl (by decide) (fun c5 => ?_) (fun c5 => ?_)
  · rw [if_pos (Or.inl c5)]
    have hG9 : Mg sz ar sz ar := Mg.rf
    refine z_bipush dX7_alike_16 (n := 18) rfl (by decide) ?_
    refine z_ret_i dX7_alike_18 rfl ?_
    exact ⟨rfl, _, _, rfl, hG9⟩
  · refine z_aload_0 dX7_alike_8 (n := 9) rfl ?_
    refine z_iload_2 dX7_alike_9 (n := 10) rfl ?_
    refine z_callV1i dX7_alike_10 (n := 13) rfl mv_X7_isWord lk_X7_112 rfl (zrm (by decide) (by decide)) (Nat.le_of_ble_eq_true rfl) (c_X7_isWord (by first | assumption | exact ⟨by omega, by omega⟩ | exact zb_zr _) (by first | assumption | exact ⟨by omega, by omega⟩ | exact zb_zr _)) (fun r u hp => ?_)
    obtain ⟨rfl, rfl⟩ := hp
    refine z_ifB_ne dX7_alike_13 (n := 16) (tg := 19) rfl (by decide) (fun c13 => ?_) (fun c13 => ?_)
    · rw [if_neg (fun z => z.elim (fun y => y c5) (fun y => y c13))]
      have La := hC.2.2.1 a c5.1 c5.2.1
      have Lb := hC.2.2.1 b c13.1 c13.2.1
      have hr := hR a c5.1 c5.2.1
      have hfl := foldl_red_len (undone (ws b)) (ws a)
      rw [undone_len] at hfl
      refine z_aload_0 dX7_alike_19 (n := 20) rfl ?_
      refine z_callV0v dX7_alike_20 (n := 23) rfl mv_X7_begin lk_X7_118 rfl (zrm (by decide) (by decide)) (Nat.le_of_ble_eq_true rfl) (c_X7_begin) (fun u hp => ?_)
      obtain ⟨sz1, ar1, rfl, hL20, hF20⟩ := hp
      refine z_aload_0 dX7_alike_23 (n := 24) rfl ?_
      refine z_iload_1 dX7_alike_24 (n := 25) rfl ?_
      refine z_callV1v dX7_alike_25 (n := 28) rfl mv_X7_comesWord lk_X7_209 rfl (zrm (by decide) (by decide)) (Nat.le_of_ble_eq_true rfl) (c_X7_comesWord c5.1 c5.2.1 (hF20.g.W La.1) (La.2.1.Ls hn6) La.2.2 hL20 Ls.nil (by simp; omega)) (fun u hp => ?_)
      obtain ⟨sz2, ar2, rfl, hL2, hF2⟩ := hp
      have hG2 := (hF20.tr hF2).g
      rw [hr] at hL2
      refine z_aload_0 dX7_alike_28 (n := 29) rfl ?_
      refine z_iload_2 dX7_alike_29 (n := 30) rfl ?_
      refine z_callV1v dX7_alike_30 (n := 33) rfl mv_X7_comesInverse lk_X7_218 rfl (zrm (by decide) (by decide)) (Nat.le_of_ble_eq_true rfl) (c_X7_comesInverse c13.1 c13.2.1 (hG2.W Lb.1) (Lb.2.1.Ls hn6) Lb.2.2 hL2 (La.2.1.Ls hn6) (by omega)) (fun u hp => ?_)
      obtain ⟨sz3, ar3, rfl, hL3, hF3⟩ := hp
      have hG3 := hG2.tr hF3.g
      obtain ⟨hM3, e0, e42, e43⟩ := hG3.M hC.1
      refine z_aload_0 dX7_alike_33 (n := 34) rfl ?_
      refine z_callV0i dX7_alike_34 (n := 37) rfl mv_X7_isNothing lk_X7_212 rfl (zrm (by decide) (by decide)) (Nat.le_of_ble_eq_true rfl) (c_X7_isNothing hM3 hL3 (by rw [e0]; exact Lt.fold Lb.2.1.un La.2.1) (by omega)) (fun r u hp => ?_)
      obtain ⟨rfl, sz4, ar4, rfl, hG4⟩ := hp
      rw [e42, e43]
      have hG9 := hG3.tr hG4
      refine z_ret_i dX7_alike_37 rfl ?_
      exact ⟨rfl, _, _, rfl, hG9⟩
    · rw [if_pos (Or.inr c13)]
      have hG9 : Mg sz ar sz ar := Mg.rf
      refine z_bipush dX7_alike_16 (n := 18) rfl (by decide) ?_
      refine z_ret_i dX7_alike_18 rfl ?_
      exact ⟨rfl, _, _, rfl, hG9⟩
set_option maxHeartbeats 4000000 in
theorem lp_X7_orderOf {G : zG} {sz : zSz} {ar : zAr} {w : Int} {ys : List Int} {i : Nat} {P : Option zV → zS → Prop} (hi : i ≤ 8) (hw0 : 0 ≤ w) (hw1 : w < 3) (hY : LR (ar 44 w) (fun k => ar 45 (16 * w + k)) ys) (hy : Ls ys) (hyc : ys.length ≤ 16)
    (K : ∀ sz' ar', LR (sz' 41 12) (ar' 50) (pwr ys i) → Mg sz ar sz' ar' → zWP G mX7_orderOf 4 P 30 [some (zR 41), some (zI w), some (zI i), some (zI i)] [] (X sz' ar')) :
    ∀ (m k : Nat) (sz' : zSz) (ar' : zAr), k + m = i → LR (sz' 41 12) (ar' 50) (pwr ys k) → Mg sz ar sz' ar' → zWP G mX7_orderOf 4 P 14 [some (zR 41), some (zI w), some (zI i), some (zI k)] [] (X sz' ar') := by
  intro m
  induction m with
  | zero =>
    intro k sz' ar' hk hL hF
    have ek : k = i := by omega
    subst ek
    refine z_iload_3 dX7_orderOf_14 (n := 15) rfl ?_
    refine z_iload_2 dX7_orderOf_15 (n := 16) rfl ?_
    refine z_icmp_ge dX7_orderOf_16 (n := 19) (tg := 30) rfl (by decide) (by first | assumption | exact ⟨by omega, by omega⟩ | exact zb_zr _) (by first | assumption | exact ⟨by omega, by omega⟩ | exact zb_zr _) (fun c16 => ?_) (fun c16 => ?_)
    · exact K sz' ar' hL hF
    · exfalso; omega
  | succ m ih =>
    intro k sz' ar' hk hL hF
    have hpl := pwr_len ys k
    have b1 : k * ys.length ≤ k * 16 := Nat.mul_le_mul_left _ hyc
    have hls : Ls (pwr ys k) := (pwr_Lt (n := 6) (fun y h => by have := hy y h; omega) k).Ls (by omega)
    refine z_iload_3 dX7_orderOf_14 (n := 15) rfl ?_
    refine z_iload_2 dX7_orderOf_15 (n := 16) rfl ?_
    refine z_icmp_ge dX7_orderOf_16 (n := 19) (tg := 30) rfl (by decide) (by first | assumption | exact ⟨by omega, by omega⟩ | exact zb_zr _) (by first | assumption | exact ⟨by omega, by omega⟩ | exact zb_zr _) (fun c16 => ?_) (fun c16 => ?_)
    · exfalso; omega
    · refine z_aload_0 dX7_orderOf_19 (n := 20) rfl ?_
      refine z_iload_1 dX7_orderOf_20 (n := 21) rfl ?_
      refine z_callV1v dX7_orderOf_21 (n := 24) rfl mv_X7_comesWord lk_X7_209 rfl (zrm (by decide) (by decide)) (Nat.le_of_ble_eq_true rfl) (c_X7_comesWord hw0 hw1 (hF.W hY) hy hyc hL hls (by omega)) (fun u hp => ?_)
      obtain ⟨sz2, ar2, rfl, hL2, hF2⟩ := hp
      refine z_iinc_3 dX7_orderOf_24 (n := 27) rfl (by decide) (fun w h => by cases h; try rfl) ?_
      refine z_goto dX7_orderOf_27 (n := 14) (by decide) ?_
      have h9 := ih (k + 1) sz2 ar2 (by omega) hL2 (hF.tr hF2.g)
      rw [show ((k + 1 : Nat) : Int) = (k : Int) + 1 by omega] at h9
      exact h9
set_option maxHeartbeats 4000000 in
theorem c_X7_orderOf {G : zG} {sz : zSz} {ar : zAr} {ws : Int → List Int} {w : Int} (hC : MK ws sz ar) (h0 : 0 ≤ w) (h1 : w < 3)  : zSem G mX7_orderOf 4 [zR 41, zI w] (X sz ar) (zpi fun r u => r = ordG (ar 42) (ar 43) (ws w) 8 1 ∧ ∃ sz' ar', u = X sz' ar' ∧ Mg sz ar sz' ar') := by
  refine z_enter (L' := [some (zR 41), some (zI w), none, none]) (by decide +kernel) (Nat.le_of_ble_eq_true rfl) ⟨2, rfl⟩ ?_
  have hn6 := hC.1.2.1
  have hW := hC.2.2.1 w h0 h1
  have HO : ∀ (m i : Nat) (sz' : zSz) (ar' : zAr) (y : Option zV), 1 ≤ i → i + m = 9 → Mg sz ar sz' ar' → zWP G mX7_orderOf 4 (zpi fun r u => r = ordG (ar 42) (ar 43) (ws w) m i ∧ ∃ sz' ar', u = X sz' ar' ∧ Mg sz ar sz' ar') 2 [some (zR 41), some (zI w), some (zI i), y] [] (X sz' ar') := by
    intro m
    induction m with
    | zero =>
      intro i sz' ar' y hi0 hi hF
      refine z_iload_2 dX7_orderOf_2 (n := 3) rfl ?_
      refine z_bipush dX7_orderOf_3 (n := 5) rfl (by decide) ?_
      refine z_icmp_gt dX7_orderOf_5 (n := 8) (tg := 56) rfl (by decide) (by first | assumption | exact ⟨by omega, by omega⟩ | exact zb_zr _) (by first | assumption | exact ⟨by omega, by omega⟩ | exact zb_zr _) (fun c5 => ?_) (fun c5 => ?_)
      · refine z_iconst dX7_orderOf_56 (n := 57) rfl ?_
        refine z_ret_i dX7_orderOf_57 rfl ?_
        exact ⟨rfl, _, _, rfl, hF⟩
      · exfalso; omega
    | succ m ih =>
      intro i sz' ar' y hi0 hi hF
      have hnr := ntw_r (ar 42) (ar 43) (pwr (ws w) i)
      have hpl := pwr_len (ws w) i
      have b1 : i * (ws w).length ≤ i * 16 := Nat.mul_le_mul_left _ hW.2.2
      refine z_iload_2 dX7_orderOf_2 (n := 3) rfl ?_
      refine z_bipush dX7_orderOf_3 (n := 5) rfl (by decide) ?_
      refine z_icmp_gt dX7_orderOf_5 (n := 8) (tg := 56) rfl (by decide) (by first | assumption | exact ⟨by omega, by omega⟩ | exact zb_zr _) (by first | assumption | exact ⟨by omega, by omega⟩ | exact zb_zr _) (fun c5 => ?_) (fun c5 => ?_)
      · exfalso; omega
      · refine z_aload_0 dX7_orderOf_8 (n := 9) rfl ?_
        refine z_callV0v dX7_orderOf_9 (n := 12) rfl mv_X7_begin lk_X7_118 rfl (zrm (by decide) (by decide)) (Nat.le_of_ble_eq_true rfl) (c_X7_begin) (fun u hp => ?_)
        obtain ⟨sz1, ar1, rfl, hL9, hF9⟩ := hp
        refine z_iconst dX7_orderOf_12 (n := 13) rfl ?_
        refine z_istore_3 dX7_orderOf_13 (n := 14) rfl (by decide) (fun w h => by cases h; try rfl) ?_
        refine lp_X7_orderOf (sz := sz1) (ar := ar1) (ys := ws w) (by omega) h0 h1 ((hF.tr hF9.g).W hW.1) (hW.2.1.Ls hn6) hW.2.2 ?_ i 0 sz1 ar1 (by omega) hL9 Mg.rf
        intro sz2 ar2 hL2 hF2
        have hG2 := (hF.tr hF9.g).tr hF2
        obtain ⟨hM2, e0, e42, e43⟩ := hG2.M hC.1
        refine z_aload_0 dX7_orderOf_30 (n := 31) rfl ?_
        refine z_callV0i dX7_orderOf_31 (n := 34) rfl mv_X7_isNothing lk_X7_212 rfl (zrm (by decide) (by decide)) (Nat.le_of_ble_eq_true rfl) (c_X7_isNothing hM2 hL2 (by rw [e0]; exact pwr_Lt hW.2.1 i) (by omega)) (fun r u hp => ?_)
        obtain ⟨rfl, sz3, ar3, rfl, hG3⟩ := hp
        rw [e42, e43]
        have hG4 := hG2.tr hG3
        refine z_istore_3 dX7_orderOf_34 (n := 35) rfl (by decide) (fun w h => by cases h; try rfl) ?_
        refine z_iload_3 dX7_orderOf_35 (n := 36) rfl ?_
        refine z_if_eq dX7_orderOf_36 (n := 39) (tg := 50) rfl (by decide) (by first | assumption | exact ⟨by omega, by omega⟩ | exact zb_zr _) (fun c36 => ?_) (fun c36 => ?_)
        · refine z_iinc_2 dX7_orderOf_50 (n := 53) rfl (by decide) (fun w h => by cases h; try rfl) ?_
          refine z_goto dX7_orderOf_53 (n := 2) (by decide) ?_
          have h9 := ih (i + 1) sz3 ar3 (some (zI (ntw (ar 42) (ar 43) (pwr (ws w) i)))) (by omega) (by omega) hG4
          rw [show ((i + 1 : Nat) : Int) = (i : Int) + 1 by omega] at h9
          rw [ordG, if_neg (by omega), if_neg (by omega)]
          exact h9
        · refine z_iload_3 dX7_orderOf_39 (n := 40) rfl ?_
          refine z_iconst dX7_orderOf_40 (n := 41) rfl ?_
          refine z_icmp_ne dX7_orderOf_41 (n := 44) (tg := 48) rfl (by decide) (by first | assumption | exact ⟨by omega, by omega⟩ | exact zb_zr _) (by first | assumption | exact ⟨by omega, by omega⟩ | exact zb_zr _) (fun c41 => ?_) (fun c41 => ?_)
          · rw [show ordG (ar 42) (ar 43) (ws w) (m + 1) i = -1 by rw [ordG, if_neg c41, if_pos (by omega)]]
            refine z_iconst dX7_orderOf_48 (n := 49) rfl ?_
            refine z_ret_i dX7_orderOf_49 rfl ?_
            exact ⟨rfl, _, _, rfl, hG4⟩
          · rw [show ordG (ar 42) (ar 43) (ws w) (m + 1) i = i by rw [ordG, if_pos c41]]
            refine z_iload_2 dX7_orderOf_44 (n := 45) rfl ?_
            refine z_goto dX7_orderOf_45 (n := 49) (by decide) ?_
            refine z_ret_i dX7_orderOf_49 rfl ?_
            exact ⟨rfl, _, _, rfl, hG4⟩
  refine z_iconst dX7_orderOf_0 (n := 1) rfl ?_
  refine z_istore_2 dX7_orderOf_1 (n := 2) rfl (by decide) (fun w h => by cases h; try rfl) ?_
  exact HO 8 1 sz ar none (by omega) (by omega) Mg.rf
set_option maxHeartbeats 4000000 in
theorem c_X7_order {G : zG} {sz : zSz} {ar : zAr} {ws : Int → List Int} {w : Int} (hw : zr w) (hC : MK ws sz ar)  : zSem G mX7_order 5 [zR 41, zI w] (X sz ar) (zpi fun r u => r = (if ¬ (0 ≤ w ∧ w < 3 ∧ 0 < sz 41 0) then -101 else ordG (ar 42) (ar 43) (ws w) 8 1) ∧ ∃ sz' ar', u = X sz' ar' ∧ Mg sz ar sz' ar') := by
  refine z_enter (L' := [some (zR 41), some (zI w)]) (by decide +kernel) (Nat.le_of_ble_eq_true rfl) ⟨0, rfl⟩ ?_
  have hn := hC.1.1
  have hn6 := hC.1.2.1
  refine z_aload_0 dX7_order_0 (n := 1) rfl ?_
  refine z_iload_1 dX7_order_1 (n := 2) rfl ?_
  refine z_callV1i dX7_order_2 (n := 5) rfl mv_X7_isWord lk_X7_112 rfl (zrm (by decide) (by decide)) (Nat.le_of_ble_eq_true rfl) (c_X7_isWord (by first | assumption | exact ⟨by omega, by omega⟩ | exact zb_zr _) (by first | assumption | exact ⟨by omega, by omega⟩ | exact zb_zr _)) (fun r u hp => ?_)
  obtain ⟨rfl, rfl⟩ := hp
  refine z_ifB_eq dX7_order_5 (n := 8) (tg := 16) rfl (by decide) (fun c5 => ?_) (fun c5 => ?_)
  · rw [if_pos c5]
    have hG9 : Mg sz ar sz ar := Mg.rf
    refine z_bipush dX7_order_16 (n := 18) rfl (by decide) ?_
    refine z_ret_i dX7_order_18 rfl ?_
    exact ⟨rfl, _, _, rfl, hG9⟩
  · rw [if_neg (fun z => z c5)]
    refine z_aload_0 dX7_order_8 (n := 9) rfl ?_
    refine z_iload_1 dX7_order_9 (n := 10) rfl ?_
    refine z_callV1i dX7_order_10 (n := 13) rfl mv_X7_orderOf lk_X7_221 rfl (zrm (by decide) (by decide)) (Nat.le_of_ble_eq_true rfl) (c_X7_orderOf hC c5.1 c5.2.1) (fun r u hp => ?_)
    obtain ⟨rfl, sz3, ar3, rfl, hG9⟩ := hp
    refine z_goto dX7_order_13 (n := 18) (by decide) ?_
    refine z_ret_i dX7_order_18 rfl ?_
    exact ⟨rfl, _, _, rfl, hG9⟩
set_option maxHeartbeats 4000000 in
theorem c_X7_times {G : zG} {sz : zSz} {ar : zAr} {ws : Int → List Int} {a b t : Int} (ha : zr a) (hb : zr b) (ht : zr t) (hC : MK ws sz ar) (hR : RD ws)  : zSem G mX7_times 2 [zR 41, zI a, zI b, zI t] (X sz ar) (zpi fun r u => (¬ ((0 ≤ a ∧ a < 3 ∧ 0 < sz 41 0) ∧ (0 ≤ b ∧ b < 3 ∧ 0 < sz 41 0) ∧ (0 ≤ t ∧ t < 3 ∧ 0 < sz 41 0)) ∧ r = -101 ∧ u = X sz ar) ∨ (((0 ≤ a ∧ a < 3 ∧ 0 < sz 41 0) ∧ (0 ≤ b ∧ b < 3 ∧ 0 < sz 41 0) ∧ (0 ≤ t ∧ t < 3 ∧ 0 < sz 41 0)) ∧ 16 < ((ws b).foldl red (ws a)).length ∧ r = -104 ∧ ∃ sz' ar', u = X sz' ar' ∧ Mg sz ar sz' ar') ∨ (((0 ≤ a ∧ a < 3 ∧ 0 < sz 41 0) ∧ (0 ≤ b ∧ b < 3 ∧ 0 < sz 41 0) ∧ (0 ≤ t ∧ t < 3 ∧ 0 < sz 41 0)) ∧ ((ws b).foldl red (ws a)).length ≤ 16 ∧ r = ((ws b).foldl red (ws a)).length ∧ PWr t ((ws b).foldl red (ws a)) sz ar u)) := by
  refine z_enter (L' := [some (zR 41), some (zI a), some (zI b), some (zI t)]) (by decide +kernel) (Nat.le_of_ble_eq_true rfl) ⟨0, rfl⟩ ?_
  have hn := hC.1.1
  have hn6 := hC.1.2.1
  have hno : ∀ (h : ¬ ((0 ≤ a ∧ a < 3 ∧ 0 < sz 41 0) ∧ (0 ≤ b ∧ b < 3 ∧ 0 < sz 41 0) ∧ (0 ≤ t ∧ t < 3 ∧ 0 < sz 41 0))), zWP G mX7_times 2 (zpi fun r u => r = -101 ∧ u = X sz ar) 24 [some (zR 41), some (zI a), some (zI b), some (zI t)] [] (X sz ar) := by
    intro _
    refine z_bipush dX7_times_24 (n := 26) rfl (by decide) ?_
    refine z_ret_i dX7_times_26 rfl ?_
    exact ⟨rfl, rfl⟩
  refine z_aload_0 dX7_times_0 (n := 1) rfl ?_
  refine z_iload_1 dX7_times_1 (n := 2) rfl ?_
  refine z_callV1i dX7_times_2 (n := 5) rfl mv_X7_isWord lk_X7_112 rfl (zrm (by decide) (by decide)) (Nat.le_of_ble_eq_true rfl) (c_X7_isWord (by first | assumption | exact ⟨by omega, by omega⟩ | exact zb_zr _) (by first | assumption | exact ⟨by omega, by omega⟩ | exact zb_zr _)) (fun r u hp => ?_)
  obtain ⟨rfl, rfl⟩ := hp
  refine z_ifB_eq dX7_times_5 (n := 8) (tg := 24) rfl (by decide) (fun c5 => ?_) (fun c5 => ?_)
  · have hn9 : ¬ ((0 ≤ a ∧ a < 3 ∧ 0 < sz 41 0) ∧ (0 ≤ b ∧ b < 3 ∧ 0 < sz 41 0) ∧ (0 ≤ t ∧ t < 3 ∧ 0 < sz 41 0)) := by omega
    exact z_wk (hno hn9) (fun x v h => Or.inl ⟨hn9, h⟩)
  · refine z_aload_0 dX7_times_8 (n := 9) rfl ?_
    refine z_iload_2 dX7_times_9 (n := 10) rfl ?_
    refine z_callV1i dX7_times_10 (n := 13) rfl mv_X7_isWord lk_X7_112 rfl (zrm (by decide) (by decide)) (Nat.le_of_ble_eq_true rfl) (c_X7_isWord (by first | assumption | exact ⟨by omega, by omega⟩ | exact zb_zr _) (by first | assumption | exact ⟨by omega, by omega⟩ | exact zb_zr _)) (fun r u hp => ?_)
    obtain ⟨rfl, rfl⟩ := hp
    refine z_ifB_eq dX7_times_13 (n := 16) (tg := 24) rfl (by decide) (fun c13 => ?_) (fun c13 => ?_)
    · have hn9 : ¬ ((0 ≤ a ∧ a < 3 ∧ 0 < sz 41 0) ∧ (0 ≤ b ∧ b < 3 ∧ 0 < sz 41 0) ∧ (0 ≤ t ∧ t < 3 ∧ 0 < sz 41 0)) := by omega
      exact z_wk (hno hn9) (fun x v h => Or.inl ⟨hn9, h⟩)
    · refine z_aload_0 dX7_times_16 (n := 17) rfl ?_
      refine z_iload_3 dX7_times_17 (n := 18) rfl ?_
      refine z_callV1i dX7_times_18 (n := 21) rfl mv_X7_isWord lk_X7_112 rfl (zrm (by decide) (by decide)) (Nat.le_of_ble_eq_true rfl) (c_X7_isWord (by first | assumption | exact ⟨by omega, by omega⟩ | exact zb_zr _) (by first | assumption | exact ⟨by omega, by omega⟩ | exact zb_zr _)) (fun r u hp => ?_)
      obtain ⟨rfl, rfl⟩ := hp
      refine z_ifB_ne dX7_times_21 (n := 24) (tg := 27) rfl (by decide) (fun c21 => ?_) (fun c21 => ?_)
      · have La := hC.2.2.1 a c5.1 c5.2.1
        have Lb := hC.2.2.1 b c13.1 c13.2.1
        have hr := hR a c5.1 c5.2.1
        have hfl := foldl_red_len (ws b) (ws a)
        refine z_aload_0 dX7_times_27 (n := 28) rfl ?_
        refine z_callV0v dX7_times_28 (n := 31) rfl mv_X7_begin lk_X7_118 rfl (zrm (by decide) (by decide)) (Nat.le_of_ble_eq_true rfl) (c_X7_begin) (fun u hp => ?_)
        obtain ⟨sz1, ar1, rfl, hL28, hF28⟩ := hp
        refine z_aload_0 dX7_times_31 (n := 32) rfl ?_
        refine z_iload_1 dX7_times_32 (n := 33) rfl ?_
        refine z_callV1v dX7_times_33 (n := 36) rfl mv_X7_comesWord lk_X7_209 rfl (zrm (by decide) (by decide)) (Nat.le_of_ble_eq_true rfl) (c_X7_comesWord c5.1 c5.2.1 (hF28.g.W La.1) (La.2.1.Ls hn6) La.2.2 hL28 Ls.nil (by simp; omega)) (fun u hp => ?_)
        obtain ⟨sz2, ar2, rfl, hL2, hF2⟩ := hp
        have hG2 := (hF28.tr hF2).g
        rw [hr] at hL2
        refine z_aload_0 dX7_times_36 (n := 37) rfl ?_
        refine z_iload_2 dX7_times_37 (n := 38) rfl ?_
        refine z_callV1v dX7_times_38 (n := 41) rfl mv_X7_comesWord lk_X7_209 rfl (zrm (by decide) (by decide)) (Nat.le_of_ble_eq_true rfl) (c_X7_comesWord c13.1 c13.2.1 (hG2.W Lb.1) (Lb.2.1.Ls hn6) Lb.2.2 hL2 (La.2.1.Ls hn6) (by omega)) (fun u hp => ?_)
        obtain ⟨sz3, ar3, rfl, hL3, hF3⟩ := hp
        have hG3 := hG2.tr hF3.g
        have hl3 := hL3.1
        refine z_aload_0 dX7_times_41 (n := 42) rfl ?_
        refine z_get dX7_times_42 (n := 45) rfl rfl fd_X7_105 rfl ?_
        refine z_bipush dX7_times_45 (n := 47) rfl (by decide) ?_
        refine z_icmp_le dX7_times_47 (n := 50) (tg := 55) rfl (by decide) (by first | assumption | exact ⟨by omega, by omega⟩ | exact zb_zr _) (by first | assumption | exact ⟨by omega, by omega⟩ | exact zb_zr _) (fun c47 => ?_) (fun c47 => ?_)
        · refine z_aload_0 dX7_times_55 (n := 56) rfl ?_
          refine z_iload_3 dX7_times_56 (n := 57) rfl ?_
          refine z_callV1i dX7_times_57 (n := 60) rfl mv_X7_keepMade lk_X7_121 rfl (zrm (by decide) (by decide)) (Nat.le_of_ble_eq_true rfl) (c_X7_keepMade c21.1 c21.2.1 hL3 (by omega)) (fun r u hp => ?_)
          obtain ⟨rfl, ar4, rfl, hK⟩ := hp
          first | (refine z_ret_i dX7_times_60 rfl ?_; exact Or.inr (Or.inr ⟨⟨c5, c13, c21⟩, by omega, rfl, _, _, _, hG3, rfl, hK⟩)) | (refine z_ret_i dX7_times_60 rfl ?_; exact Or.inr (Or.inl ⟨⟨c5, c13, c21⟩, by omega, rfl, _, _, rfl, hG3⟩))
        · refine z_bipush dX7_times_50 (n := 52) rfl (by decide) ?_
          refine z_goto dX7_times_52 (n := 60) (by decide) ?_
          first | (refine z_ret_i dX7_times_60 rfl ?_; exact Or.inr (Or.inr ⟨⟨c5, c13, c21⟩, by omega, rfl, _, _, _, hG3, rfl, hK⟩)) | (refine z_ret_i dX7_times_60 rfl ?_; exact Or.inr (Or.inl ⟨⟨c5, c13, c21⟩, by omega, rfl, _, _, rfl, hG3⟩))
      · have hn9 : ¬ ((0 ≤ a ∧ a < 3 ∧ 0 < sz 41 0) ∧ (0 ≤ b ∧ b < 3 ∧ 0 < sz 41 0) ∧ (0 ≤ t ∧ t < 3 ∧ 0 < sz 41 0)) := by omega
        exact z_wk (hno hn9) (fun x v h => Or.inl ⟨hn9, h⟩)
set_option maxHeartbeats 4000000 in
theorem c_X7_undo {G : zG} {sz : zSz} {ar : zAr} {ws : Int → List Int} {a t : Int} (ha : zr a) (ht : zr t) (hC : MK ws sz ar)  : zSem G mX7_undo 2 [zR 41, zI a, zI t] (X sz ar) (zpi fun r u => (¬ ((0 ≤ a ∧ a < 3 ∧ 0 < sz 41 0) ∧ (0 ≤ t ∧ t < 3 ∧ 0 < sz 41 0)) ∧ r = -101 ∧ u = X sz ar) ∨ (((0 ≤ a ∧ a < 3 ∧ 0 < sz 41 0) ∧ (0 ≤ t ∧ t < 3 ∧ 0 < sz 41 0)) ∧ r = ((undone (ws a)).foldl red []).length ∧ PWr t ((undone (ws a)).foldl red []) sz ar u)) := by
  refine z_enter (L' := [some (zR 41), some (zI a), some (zI t)]) (by decide +kernel) (Nat.le_of_ble_eq_true rfl) ⟨0, rfl⟩ ?_
  have hn := hC.1.1
  have hn6 := hC.1.2.1
  have hno : zWP G mX7_undo 2 (zpi fun r u => r = -101 ∧ u = X sz ar) 16 [some (zR 41), some (zI a), some (zI t)] [] (X sz ar) := by
    refine z_bipush dX7_undo_16 (n := 18) rfl (by decide) ?_
    refine z_ret_i dX7_undo_18 rfl ?_
    exact ⟨rfl, rfl⟩
  refine z_aload_0 dX7_undo_0 (n := 1) rfl ?_
  refine z_iload_1 dX7_undo_1 (n := 2) rfl ?_
  refine z_callV1i dX7_undo_2 (n := 5) rfl mv_X7_isWord lk_X7_112 rfl (zrm (by decide) (by decide)) (Nat.le_of_ble_eq_true rfl) (c_X7_isWord (by first | assumption | exact ⟨by omega, by omega⟩ | exact zb_zr _) (by first | assumption | exact ⟨by omega, by omega⟩ | exact zb_zr _)) (fun r u hp => ?_)
  obtain ⟨rfl, rfl⟩ := hp
  refine z_ifB_eq dX7_undo_5 (n := 8) (tg := 16) rfl (by decide) (fun c5 => ?_) (fun c5 => ?_)
  · have hn9 : ¬ ((0 ≤ a ∧ a < 3 ∧ 0 < sz 41 0) ∧ (0 ≤ t ∧ t < 3 ∧ 0 < sz 41 0)) := by omega
    exact z_wk hno (fun x v h => Or.inl ⟨hn9, h⟩)
  · refine z_aload_0 dX7_undo_8 (n := 9) rfl ?_
    refine z_iload_2 dX7_undo_9 (n := 10) rfl ?_
    refine z_callV1i dX7_undo_10 (n := 13) rfl mv_X7_isWord lk_X7_112 rfl (zrm (by decide) (by decide)) (Nat.le_of_ble_eq_true rfl) (c_X7_isWord (by first | assumption | exact ⟨by omega, by omega⟩ | exact zb_zr _) (by first | assumption | exact ⟨by omega, by omega⟩ | exact zb_zr _)) (fun r u hp => ?_)
    obtain ⟨rfl, rfl⟩ := hp
    refine z_ifB_ne dX7_undo_13 (n := 16) (tg := 19) rfl (by decide) (fun c13 => ?_) (fun c13 => ?_)
    · have La := hC.2.2.1 a c5.1 c5.2.1
      have hfl := foldl_red_len (undone (ws a)) []
      rw [undone_len] at hfl
      simp only [List.length_nil] at hfl
      refine z_aload_0 dX7_undo_19 (n := 20) rfl ?_
      refine z_callV0v dX7_undo_20 (n := 23) rfl mv_X7_begin lk_X7_118 rfl (zrm (by decide) (by decide)) (Nat.le_of_ble_eq_true rfl) (c_X7_begin) (fun u hp => ?_)
      obtain ⟨sz1, ar1, rfl, hL20, hF20⟩ := hp
      refine z_aload_0 dX7_undo_23 (n := 24) rfl ?_
      refine z_iload_1 dX7_undo_24 (n := 25) rfl ?_
      refine z_callV1v dX7_undo_25 (n := 28) rfl mv_X7_comesInverse lk_X7_218 rfl (zrm (by decide) (by decide)) (Nat.le_of_ble_eq_true rfl) (c_X7_comesInverse c5.1 c5.2.1 (hF20.g.W La.1) (La.2.1.Ls hn6) La.2.2 hL20 Ls.nil (by simp; omega)) (fun u hp => ?_)
      obtain ⟨sz2, ar2, rfl, hL2, hF2⟩ := hp
      have hG2 := (hF20.tr hF2).g
      refine z_aload_0 dX7_undo_28 (n := 29) rfl ?_
      refine z_iload_2 dX7_undo_29 (n := 30) rfl ?_
      refine z_callV1i dX7_undo_30 (n := 33) rfl mv_X7_keepMade lk_X7_121 rfl (zrm (by decide) (by decide)) (Nat.le_of_ble_eq_true rfl) (c_X7_keepMade c13.1 c13.2.1 hL2 (by omega)) (fun r u hp => ?_)
      obtain ⟨rfl, ar4, rfl, hK⟩ := hp
      refine z_ret_i dX7_undo_33 rfl ?_
      exact Or.inr ⟨⟨c5, c13⟩, rfl, _, _, _, hG2, rfl, hK⟩
    · have hn9 : ¬ ((0 ≤ a ∧ a < 3 ∧ 0 < sz 41 0) ∧ (0 ≤ t ∧ t < 3 ∧ 0 < sz 41 0)) := by omega
      exact z_wk hno (fun x v h => Or.inl ⟨hn9, h⟩)
set_option maxHeartbeats 4000000 in
theorem c_X7_section {G : zG} {sz : zSz} {ar : zAr} {ws : Int → List Int} {a b t : Int} (ha : zr a) (hb : zr b) (ht : zr t) (hC : MK ws sz ar) (hR : RD ws)  : zSem G mX7_section 3 [zR 41, zI a, zI b, zI t] (X sz ar) (zpi fun r u => (¬ ((0 ≤ a ∧ a < 3 ∧ 0 < sz 41 0) ∧ (0 ≤ t ∧ t < 3 ∧ 0 < sz 41 0)) ∧ r = -101 ∧ u = X sz ar) ∨ (((0 ≤ a ∧ a < 3 ∧ 0 < sz 41 0) ∧ (0 ≤ t ∧ t < 3 ∧ 0 < sz 41 0)) ∧ ¬ (b = 0 ∨ b = 1) ∧ r = -102 ∧ u = X sz ar) ∨ (((0 ≤ a ∧ a < 3 ∧ 0 < sz 41 0) ∧ (0 ≤ t ∧ t < 3 ∧ 0 < sz 41 0)) ∧ (b = 0 ∨ b = 1) ∧ r = (sec (ar 42) (ar 43) (ws a) b).length ∧ PWr t (sec (ar 42) (ar 43) (ws a) b) sz ar u)) := by
  refine z_enter (L' := [some (zR 41), some (zI a), some (zI b), some (zI t)]) (by decide +kernel) (Nat.le_of_ble_eq_true rfl) ⟨0, rfl⟩ ?_
  have hn := hC.1.1
  have hn6 := hC.1.2.1
  have hno : zWP G mX7_section 3 (zpi fun r u => r = -101 ∧ u = X sz ar) 16 [some (zR 41), some (zI a), some (zI b), some (zI t)] [] (X sz ar) := by
    refine z_bipush dX7_section_16 (n := 18) rfl (by decide) ?_
    refine z_ret_i dX7_section_18 rfl ?_
    exact ⟨rfl, rfl⟩
  have hF0 : Mg sz ar (zz sz 41 14 0) ar := ⟨fun j hj => zz_ne hj, fun i _ hi _ => zz_ni hi, fun _ _ => rfl⟩
  have hL0 : LL [] (zz sz 41 14 0) ar := ⟨by rw [zz_eq]; rfl, fun p hp => by cases hp⟩
  have hW0 : Wok (sz 41 0) [] := ⟨by simp, fun w h => by cases h⟩
  refine z_aload_0 dX7_section_0 (n := 1) rfl ?_
  refine z_iload_1 dX7_section_1 (n := 2) rfl ?_
  refine z_callV1i dX7_section_2 (n := 5) rfl mv_X7_isWord lk_X7_112 rfl (zrm (by decide) (by decide)) (Nat.le_of_ble_eq_true rfl) (c_X7_isWord (by first | assumption | exact ⟨by omega, by omega⟩ | exact zb_zr _) (by first | assumption | exact ⟨by omega, by omega⟩ | exact zb_zr _)) (fun r u hp => ?_)
  obtain ⟨rfl, rfl⟩ := hp
  refine z_ifB_eq dX7_section_5 (n := 8) (tg := 16) rfl (by decide) (fun c5 => ?_) (fun c5 => ?_)
  · have hn9 : ¬ ((0 ≤ a ∧ a < 3 ∧ 0 < sz 41 0) ∧ (0 ≤ t ∧ t < 3 ∧ 0 < sz 41 0)) := by omega
    exact z_wk hno (fun x v h => Or.inl ⟨hn9, h⟩)
  · refine z_aload_0 dX7_section_8 (n := 9) rfl ?_
    refine z_iload_3 dX7_section_9 (n := 10) rfl ?_
    refine z_callV1i dX7_section_10 (n := 13) rfl mv_X7_isWord lk_X7_112 rfl (zrm (by decide) (by decide)) (Nat.le_of_ble_eq_true rfl) (c_X7_isWord (by first | assumption | exact ⟨by omega, by omega⟩ | exact zb_zr _) (by first | assumption | exact ⟨by omega, by omega⟩ | exact zb_zr _)) (fun r u hp => ?_)
    obtain ⟨rfl, rfl⟩ := hp
    refine z_ifB_ne dX7_section_13 (n := 16) (tg := 19) rfl (by decide) (fun c13 => ?_) (fun c13 => ?_)
    · refine z_iload_2 dX7_section_19 (n := 20) rfl ?_
      refine z_iconst dX7_section_20 (n := 21) rfl ?_
      refine z_iconst dX7_section_21 (n := 22) rfl ?_
      refine z_callS3i dX7_section_22 (n := 25) rfl ms_X7_within lk_X7_69 (zrm (by decide) (by decide)) (Nat.le_of_ble_eq_true rfl) (c_X7_within (by first | assumption | exact ⟨by omega, by omega⟩ | exact zb_zr _) (by first | assumption | exact ⟨by omega, by omega⟩ | exact zb_zr _) (by first | assumption | exact ⟨by omega, by omega⟩ | exact zb_zr _)) (fun r u hp => ?_)
      obtain ⟨rfl, rfl⟩ := hp
      refine z_ifB_ne dX7_section_25 (n := 28) (tg := 31) rfl (by decide) (fun c25 => ?_) (fun c25 => ?_)
      · have La := hC.2.2.1 a c5.1 c5.2.1
        have hr := hR a c5.1 c5.2.1
        have hso := sec_ok hC.1 La.2.1 (b := b) (by omega) (by omega)
        refine z_aload_0 dX7_section_31 (n := 32) rfl ?_
        refine z_iconst dX7_section_32 (n := 33) rfl ?_
        refine z_putX dX7_section_33 (n := 36) rfl rfl fw_X7_193 (by first | decide | simp) rfl ?_
        refine z_aload_0 dX7_section_36 (n := 37) rfl ?_
        refine z_callV0v dX7_section_37 (n := 40) rfl mv_X7_begin lk_X7_118 rfl (zrm (by decide) (by decide)) (Nat.le_of_ble_eq_true rfl) (c_X7_begin) (fun u hp => ?_)
        obtain ⟨sz1, ar1, rfl, hL37, hF37⟩ := hp
        refine z_aload_0 dX7_section_40 (n := 41) rfl ?_
        refine z_iload_1 dX7_section_41 (n := 42) rfl ?_
        refine z_callV1v dX7_section_42 (n := 45) rfl mv_X7_comesWord lk_X7_209 rfl (zrm (by decide) (by decide)) (Nat.le_of_ble_eq_true rfl) (c_X7_comesWord c5.1 c5.2.1 ((hF0.tr hF37.g).W La.1) (La.2.1.Ls hn6) La.2.2 hL37 Ls.nil (by simp; omega)) (fun u hp => ?_)
        obtain ⟨sz2, ar2, rfl, hL2, hF2⟩ := hp
        have hFm := hF37.tr hF2
        rw [hr] at hL2
        refine z_aload_0 dX7_section_45 (n := 46) rfl ?_
        refine z_callV0v dX7_section_46 (n := 49) rfl mv_X7_enlist lk_X7_199 rfl (zrm (by decide) (by decide)) (Nat.le_of_ble_eq_true rfl) (c_X7_enlist (n := sz 41 0) hn6 hL2 La.2.1 (by omega) (hL0.m hFm) hW0) (fun u hp => ?_)
        obtain ⟨sz3, ar3, rfl, hLL3, hF3⟩ := hp
        have hG3 := (hF0.tr hFm.g).tr hF3.g
        obtain ⟨hM3, e0, e42, e43⟩ := hG3.M hC.1
        have hY3 := hLL3.2 0 (by show 0 < [ws a].length; simp)
        refine z_aload_0 dX7_section_49 (n := 50) rfl ?_
        refine z_iconst dX7_section_50 (n := 51) rfl ?_
        refine z_iload_2 dX7_section_51 (n := 52) rfl ?_
        refine z_callV2v dX7_section_52 (n := 55) rfl mv_X7_makeSection lk_X7_205 rfl (zrm (by decide) (by decide)) (Nat.le_of_ble_eq_true rfl) (c_X7_makeSection (n := 0) (ys := ws a) (by omega) (by omega) hM3 hY3 (by rw [e0]; exact La.2.1) (by omega) (by omega) (by omega)) (fun u hp => ?_)
        obtain ⟨sz4, ar4, rfl, hL4, hF4⟩ := hp
        have hG4 := hG3.tr hF4.g
        rw [e42, e43] at hL4
        refine z_aload_0 dX7_section_55 (n := 56) rfl ?_
        refine z_iload_3 dX7_section_56 (n := 57) rfl ?_
        refine z_callV1i dX7_section_57 (n := 60) rfl mv_X7_keepMade lk_X7_121 rfl (zrm (by decide) (by decide)) (Nat.le_of_ble_eq_true rfl) (c_X7_keepMade c13.1 c13.2.1 hL4 (by omega)) (fun r u hp => ?_)
        obtain ⟨rfl, ar5, rfl, hK⟩ := hp
        refine z_ret_i dX7_section_60 rfl ?_
        exact Or.inr (Or.inr ⟨⟨c5, c13⟩, by omega, rfl, _, _, _, hG4, rfl, hK⟩)
      · refine z_bipush dX7_section_28 (n := 30) rfl (by decide) ?_
        refine z_ret_i dX7_section_30 rfl ?_
        exact Or.inr (Or.inl ⟨⟨c5, c13⟩, by omega, rfl, rfl⟩)
    · have hn9 : ¬ ((0 ≤ a ∧ a < 3 ∧ 0 < sz 41 0) ∧ (0 ≤ t ∧ t < 3 ∧ 0 < sz 41 0)) := by omega
      exact z_wk hno (fun x v h => Or.inl ⟨hn9, h⟩)
set_option maxHeartbeats 4000000 in
theorem c_X7_aim {G : zG} {sz : zSz} {ar : zAr} {s b t : Int} (hs : zr s) (hb : zr b) (ht : zr t) (hM : MOK (sz 41 0) (ar 42) (ar 43))  : zSem G mX7_aim 2 [zR 41, zI s, zI b, zI t] (X sz ar) (zpi fun r u => (¬ ((0 ≤ s ∧ s < sz 41 0) ∧ (t = -1 ∨ (0 ≤ t ∧ t < sz 41 0))) ∧ r = -101 ∧ u = X sz ar) ∨ (((0 ≤ s ∧ s < sz 41 0) ∧ (t = -1 ∨ (0 ≤ t ∧ t < sz 41 0))) ∧ ¬ (b = 0 ∨ b = 1) ∧ r = -102 ∧ u = X sz ar) ∨ (((0 ≤ s ∧ s < sz 41 0) ∧ (t = -1 ∨ (0 ≤ t ∧ t < sz 41 0))) ∧ (b = 0 ∨ b = 1) ∧ r = ar 43 (2 * s + b) ∧ u = X sz (zq ar 43 (zf (ar 43) (2 * s + b) t)))) := by
  refine z_enter (L' := [some (zR 41), some (zI s), some (zI b), some (zI t), none]) (by decide +kernel) (Nat.le_of_ble_eq_true rfl) ⟨1, rfl⟩ ?_
  have hn := hM.1
  have hn6 := hM.2.1
  refine z_aload_0 dX7_aim_0 (n := 1) rfl ?_
  refine z_iload_1 dX7_aim_1 (n := 2) rfl ?_
  refine z_callV1i dX7_aim_2 (n := 5) rfl mv_X7_isState lk_X7_169 rfl (zrm (by decide) (by decide)) (Nat.le_of_ble_eq_true rfl) (c_X7_isState (by first | assumption | exact ⟨by omega, by omega⟩ | exact zb_zr _) (by omega) (by omega)) (fun r u hp => ?_)
  obtain ⟨rfl, rfl⟩ := hp
  refine z_ifB_eq dX7_aim_5 (n := 8) (tg := 21) rfl (by decide) (fun c5 => ?_) (fun c5 => ?_)
  · refine z_bipush dX7_aim_21 (n := 23) rfl (by decide) ?_
    refine z_ret_i dX7_aim_23 rfl ?_
    exact Or.inl ⟨by omega, rfl, rfl⟩
  · refine z_iload_3 dX7_aim_8 (n := 9) rfl ?_
    refine z_iconst dX7_aim_9 (n := 10) rfl ?_
    refine z_icmp_eq dX7_aim_10 (n := 13) (tg := 24) rfl (by decide) (by first | assumption | exact ⟨by omega, by omega⟩ | exact zb_zr _) (by first | assumption | exact ⟨by omega, by omega⟩ | exact zb_zr _) (fun c10 => ?_) (fun c10 => ?_)
    · refine z_iload_2 dX7_aim_24 (n := 25) rfl ?_
      refine z_iconst dX7_aim_25 (n := 26) rfl ?_
      refine z_iconst dX7_aim_26 (n := 27) rfl ?_
      refine z_callS3i dX7_aim_27 (n := 30) rfl ms_X7_within lk_X7_69 (zrm (by decide) (by decide)) (Nat.le_of_ble_eq_true rfl) (c_X7_within (by first | assumption | exact ⟨by omega, by omega⟩ | exact zb_zr _) (by first | assumption | exact ⟨by omega, by omega⟩ | exact zb_zr _) (by first | assumption | exact ⟨by omega, by omega⟩ | exact zb_zr _)) (fun r u hp => ?_)
      obtain ⟨rfl, rfl⟩ := hp
      refine z_ifB_ne dX7_aim_30 (n := 33) (tg := 36) rfl (by decide) (fun c30 => ?_) (fun c30 => ?_)
      · refine z_aload_0 dX7_aim_36 (n := 37) rfl ?_
        refine z_get dX7_aim_37 (n := 40) rfl rfl fd_X7_13 rfl ?_
        refine z_iconst dX7_aim_40 (n := 41) rfl ?_
        refine z_iload_1 dX7_aim_41 (n := 42) rfl ?_
        refine z_imul dX7_aim_42 (n := 43) rfl ?_
        refine z_iload_2 dX7_aim_43 (n := 44) rfl ?_
        refine z_iadd dX7_aim_44 (n := 45) rfl ?_
        refine z_iald dX7_aim_45 (n := 46) rfl rfl (by omega) (by omega) (by decide) ?_
        refine z_istore_4 dX7_aim_46 (n := 48) rfl (by decide) (fun w h => by cases h; try rfl) ?_
        refine z_aload_0 dX7_aim_48 (n := 49) rfl ?_
        refine z_get dX7_aim_49 (n := 52) rfl rfl fd_X7_13 rfl ?_
        refine z_iconst dX7_aim_52 (n := 53) rfl ?_
        refine z_iload_1 dX7_aim_53 (n := 54) rfl ?_
        refine z_imul dX7_aim_54 (n := 55) rfl ?_
        refine z_iload_2 dX7_aim_55 (n := 56) rfl ?_
        refine z_iadd dX7_aim_56 (n := 57) rfl ?_
        refine z_iload_3 dX7_aim_57 (n := 58) rfl ?_
        refine z_iastX dX7_aim_58 (n := 59) rfl rfl (by omega) (by omega) (by decide) rfl ?_
        refine z_iload_4 dX7_aim_59 (n := 61) rfl ?_
        refine z_ret_i dX7_aim_61 rfl ?_
        exact Or.inr (Or.inr ⟨by omega, by omega, rfl, rfl⟩)
      · refine z_bipush dX7_aim_33 (n := 35) rfl (by decide) ?_
        refine z_ret_i dX7_aim_35 rfl ?_
        exact Or.inr (Or.inl ⟨by omega, by omega, rfl, rfl⟩)
    · refine z_aload_0 dX7_aim_13 (n := 14) rfl ?_
      refine z_iload_3 dX7_aim_14 (n := 15) rfl ?_
      refine z_callV1i dX7_aim_15 (n := 18) rfl mv_X7_isState lk_X7_169 rfl (zrm (by decide) (by decide)) (Nat.le_of_ble_eq_true rfl) (c_X7_isState (by first | assumption | exact ⟨by omega, by omega⟩ | exact zb_zr _) (by omega) (by omega)) (fun r u hp => ?_)
      obtain ⟨rfl, rfl⟩ := hp
      refine z_ifB_ne dX7_aim_18 (n := 21) (tg := 24) rfl (by decide) (fun c18 => ?_) (fun c18 => ?_)
      · refine z_iload_2 dX7_aim_24 (n := 25) rfl ?_
        refine z_iconst dX7_aim_25 (n := 26) rfl ?_
        refine z_iconst dX7_aim_26 (n := 27) rfl ?_
        refine z_callS3i dX7_aim_27 (n := 30) rfl ms_X7_within lk_X7_69 (zrm (by decide) (by decide)) (Nat.le_of_ble_eq_true rfl) (c_X7_within (by first | assumption | exact ⟨by omega, by omega⟩ | exact zb_zr _) (by first | assumption | exact ⟨by omega, by omega⟩ | exact zb_zr _) (by first | assumption | exact ⟨by omega, by omega⟩ | exact zb_zr _)) (fun r u hp => ?_)
        obtain ⟨rfl, rfl⟩ := hp
        refine z_ifB_ne dX7_aim_30 (n := 33) (tg := 36) rfl (by decide) (fun c30 => ?_) (fun c30 => ?_)
        · refine z_aload_0 dX7_aim_36 (n := 37) rfl ?_
          refine z_get dX7_aim_37 (n := 40) rfl rfl fd_X7_13 rfl ?_
          refine z_iconst dX7_aim_40 (n := 41) rfl ?_
          refine z_iload_1 dX7_aim_41 (n := 42) rfl ?_
          refine z_imul dX7_aim_42 (n := 43) rfl ?_
          refine z_iload_2 dX7_aim_43 (n := 44) rfl ?_
          refine z_iadd dX7_aim_44 (n := 45) rfl ?_
          refine z_iald dX7_aim_45 (n := 46) rfl rfl (by omega) (by omega) (by decide) ?_
          refine z_istore_4 dX7_aim_46 (n := 48) rfl (by decide) (fun w h => by cases h; try rfl) ?_
          refine z_aload_0 dX7_aim_48 (n := 49) rfl ?_
          refine z_get dX7_aim_49 (n := 52) rfl rfl fd_X7_13 rfl ?_
          refine z_iconst dX7_aim_52 (n := 53) rfl ?_
          refine z_iload_1 dX7_aim_53 (n := 54) rfl ?_
          refine z_imul dX7_aim_54 (n := 55) rfl ?_
          refine z_iload_2 dX7_aim_55 (n := 56) rfl ?_
          refine z_iadd dX7_aim_56 (n := 57) rfl ?_
          refine z_iload_3 dX7_aim_57 (n := 58) rfl ?_
          refine z_iastX dX7_aim_58 (n := 59) rfl rfl (by omega) (by omega) (by decide) rfl ?_
          refine z_iload_4 dX7_aim_59 (n := 61) rfl ?_
          refine z_ret_i dX7_aim_61 rfl ?_
          exact Or.inr (Or.inr ⟨by omega, by omega, rfl, rfl⟩)
        · refine z_bipush dX7_aim_33 (n := 35) rfl (by decide) ?_
          refine z_ret_i dX7_aim_35 rfl ?_
          exact Or.inr (Or.inl ⟨by omega, by omega, rfl, rfl⟩)
      · refine z_bipush dX7_aim_21 (n := 23) rfl (by decide) ?_
        refine z_ret_i dX7_aim_23 rfl ?_
        exact Or.inl ⟨by omega, rfl, rfl⟩
set_option maxHeartbeats 4000000 in
theorem c_X7_change {G : zG} {sz : zSz} {ar : zAr} {s k : Int} (hs : zr s) (hk : zr k) (hM : MOK (sz 41 0) (ar 42) (ar 43))  : zSem G mX7_change 2 [zR 41, zI s, zI k] (X sz ar) (zpi fun r u => (¬ (0 ≤ s ∧ s < sz 41 0) ∧ r = -101 ∧ u = X sz ar) ∨ ((0 ≤ s ∧ s < sz 41 0) ∧ ¬ (0 ≤ k ∧ k < 5) ∧ r = -102 ∧ u = X sz ar) ∨ ((0 ≤ s ∧ s < sz 41 0) ∧ (0 ≤ k ∧ k < 5) ∧ r = ar 42 s ∧ u = X sz (zq ar 42 (zf (ar 42) s k)))) := by
  refine z_enter (L' := [some (zR 41), some (zI s), some (zI k), none]) (by decide +kernel) (Nat.le_of_ble_eq_true rfl) ⟨1, rfl⟩ ?_
  have hn := hM.1
  have hn6 := hM.2.1
  refine z_aload_0 dX7_change_0 (n := 1) rfl ?_
  refine z_iload_1 dX7_change_1 (n := 2) rfl ?_
  refine z_callV1i dX7_change_2 (n := 5) rfl mv_X7_isState lk_X7_169 rfl (zrm (by decide) (by decide)) (Nat.le_of_ble_eq_true rfl) (c_X7_isState (by first | assumption | exact ⟨by omega, by omega⟩ | exact zb_zr _) (by omega) (by omega)) (fun r u hp => ?_)
  obtain ⟨rfl, rfl⟩ := hp
  refine z_ifB_ne dX7_change_5 (n := 8) (tg := 11) rfl (by decide) (fun c5 => ?_) (fun c5 => ?_)
  · refine z_iload_2 dX7_change_11 (n := 12) rfl ?_
    refine z_iconst dX7_change_12 (n := 13) rfl ?_
    refine z_iconst dX7_change_13 (n := 14) rfl ?_
    refine z_callS3i dX7_change_14 (n := 17) rfl ms_X7_within lk_X7_69 (zrm (by decide) (by decide)) (Nat.le_of_ble_eq_true rfl) (c_X7_within (by first | assumption | exact ⟨by omega, by omega⟩ | exact zb_zr _) (by first | assumption | exact ⟨by omega, by omega⟩ | exact zb_zr _) (by first | assumption | exact ⟨by omega, by omega⟩ | exact zb_zr _)) (fun r u hp => ?_)
    obtain ⟨rfl, rfl⟩ := hp
    refine z_ifB_ne dX7_change_17 (n := 20) (tg := 23) rfl (by decide) (fun c17 => ?_) (fun c17 => ?_)
    · refine z_aload_0 dX7_change_23 (n := 24) rfl ?_
      refine z_get dX7_change_24 (n := 27) rfl rfl fd_X7_7 rfl ?_
      refine z_iload_1 dX7_change_27 (n := 28) rfl ?_
      refine z_iald dX7_change_28 (n := 29) rfl rfl (by omega) (by omega) (by decide) ?_
      refine z_istore_3 dX7_change_29 (n := 30) rfl (by decide) (fun w h => by cases h; try rfl) ?_
      refine z_aload_0 dX7_change_30 (n := 31) rfl ?_
      refine z_get dX7_change_31 (n := 34) rfl rfl fd_X7_7 rfl ?_
      refine z_iload_1 dX7_change_34 (n := 35) rfl ?_
      refine z_iload_2 dX7_change_35 (n := 36) rfl ?_
      refine z_iastX dX7_change_36 (n := 37) rfl rfl (by omega) (by omega) (by decide) rfl ?_
      refine z_iload_3 dX7_change_37 (n := 38) rfl ?_
      refine z_ret_i dX7_change_38 rfl ?_
      exact Or.inr (Or.inr ⟨by omega, by omega, rfl, rfl⟩)
    · refine z_bipush dX7_change_20 (n := 22) rfl (by decide) ?_
      refine z_ret_i dX7_change_22 rfl ?_
      exact Or.inr (Or.inl ⟨by omega, by omega, rfl, rfl⟩)
  · refine z_bipush dX7_change_8 (n := 10) rfl (by decide) ?_
    refine z_ret_i dX7_change_10 rfl ?_
    exact Or.inl ⟨by omega, rfl, rfl⟩
set_option maxHeartbeats 4000000 in
theorem c_X7_see {G : zG} {sz : zSz} {ar : zAr} {s q c : Int} (hs : zr s) (hq : zr q) (hcc : c = 0 ∨ c = 1) (hn : 0 ≤ sz 41 0) (hn6 : sz 41 0 ≤ 6) (hs0 : 0 ≤ sz 41 6) (hs1 : sz 41 6 ≤ 6)  : zSem G mX7_see 2 [zR 41, zI s, zI q, zI c] (X sz ar) (zpi fun r u => (¬ (0 ≤ s ∧ s < sz 41 0) ∧ r = -101 ∧ u = X sz ar) ∨ ((0 ≤ s ∧ s < sz 41 0) ∧ ¬ (0 ≤ q ∧ q < 4) ∧ r = -102 ∧ u = X sz ar) ∨ ((0 ≤ s ∧ s < sz 41 0) ∧ (0 ≤ q ∧ q < 4) ∧ 6 ≤ sz 41 6 ∧ r = -104 ∧ u = X sz ar) ∨ ((0 ≤ s ∧ s < sz 41 0) ∧ (0 ≤ q ∧ q < 4) ∧ sz 41 6 < 6 ∧ r = sz 41 6 + 1 ∧ u = X (zz sz 41 6 (sz 41 6 + 1)) (zq (zq (zq ar 46 (zf (ar 46) (sz 41 6) s)) 47 (zf (ar 47) (sz 41 6) q)) 48 (zf (ar 48) (sz 41 6) c)))) := by
  refine z_enter (L' := [some (zR 41), some (zI s), some (zI q), some (zI c)]) (by decide +kernel) (Nat.le_of_ble_eq_true rfl) ⟨0, rfl⟩ ?_
  refine z_aload_0 dX7_see_0 (n := 1) rfl ?_
  refine z_iload_1 dX7_see_1 (n := 2) rfl ?_
  refine z_callV1i dX7_see_2 (n := 5) rfl mv_X7_isState lk_X7_169 rfl (zrm (by decide) (by decide)) (Nat.le_of_ble_eq_true rfl) (c_X7_isState (by first | assumption | exact ⟨by omega, by omega⟩ | exact zb_zr _) (by omega) (by omega)) (fun r u hp => ?_)
  obtain ⟨rfl, rfl⟩ := hp
  refine z_ifB_ne dX7_see_5 (n := 8) (tg := 11) rfl (by decide) (fun c5 => ?_) (fun c5 => ?_)
  · refine z_iload_2 dX7_see_11 (n := 12) rfl ?_
    refine z_iconst dX7_see_12 (n := 13) rfl ?_
    refine z_iconst dX7_see_13 (n := 14) rfl ?_
    refine z_callS3i dX7_see_14 (n := 17) rfl ms_X7_within lk_X7_69 (zrm (by decide) (by decide)) (Nat.le_of_ble_eq_true rfl) (c_X7_within (by first | assumption | exact ⟨by omega, by omega⟩ | exact zb_zr _) (by first | assumption | exact ⟨by omega, by omega⟩ | exact zb_zr _) (by first | assumption | exact ⟨by omega, by omega⟩ | exact zb_zr _)) (fun r u hp => ?_)
    obtain ⟨rfl, rfl⟩ := hp
    refine z_ifB_ne dX7_see_17 (n := 20) (tg := 23) rfl (by decide) (fun c17 => ?_) (fun c17 => ?_)
    · refine z_aload_0 dX7_see_23 (n := 24) rfl ?_
      refine z_get dX7_see_24 (n := 27) rfl rfl fd_X7_99 rfl ?_
      refine z_bipush dX7_see_27 (n := 29) rfl (by decide) ?_
      refine z_icmp_ne dX7_see_29 (n := 32) (tg := 35) rfl (by decide) (by first | assumption | exact ⟨by omega, by omega⟩ | exact zb_zr _) (by first | assumption | exact ⟨by omega, by omega⟩ | exact zb_zr _) (fun c29 => ?_) (fun c29 => ?_)
      · refine z_aload_0 dX7_see_35 (n := 36) rfl ?_
        refine z_get dX7_see_36 (n := 39) rfl rfl fd_X7_22 rfl ?_
        refine z_aload_0 dX7_see_39 (n := 40) rfl ?_
        refine z_get dX7_see_40 (n := 43) rfl rfl fd_X7_99 rfl ?_
        refine z_iload_1 dX7_see_43 (n := 44) rfl ?_
        refine z_iastX dX7_see_44 (n := 45) rfl rfl (by omega) (by omega) (by decide) rfl ?_
        refine z_aload_0 dX7_see_45 (n := 46) rfl ?_
        refine z_get dX7_see_46 (n := 49) rfl rfl fd_X7_25 rfl ?_
        refine z_aload_0 dX7_see_49 (n := 50) rfl ?_
        refine z_get dX7_see_50 (n := 53) rfl rfl fd_X7_99 rfl ?_
        refine z_iload_2 dX7_see_53 (n := 54) rfl ?_
        refine z_iastX dX7_see_54 (n := 55) rfl rfl (by omega) (by omega) (by decide) rfl ?_
        refine z_aload_0 dX7_see_55 (n := 56) rfl ?_
        refine z_get dX7_see_56 (n := 59) rfl rfl fd_X7_28 rfl ?_
        refine z_aload_0 dX7_see_59 (n := 60) rfl ?_
        refine z_get dX7_see_60 (n := 63) rfl rfl fd_X7_99 rfl ?_
        refine z_iload_3 dX7_see_63 (n := 64) rfl ?_
        refine z_zastX dX7_see_64 (n := 65) rfl rfl (by omega) (by omega) (by decide) hcc rfl ?_
        refine z_aload_0 dX7_see_65 (n := 66) rfl ?_
        refine z_dup dX7_see_66 (n := 67) rfl rfl ?_
        refine z_get dX7_see_67 (n := 70) rfl rfl fd_X7_99 rfl ?_
        refine z_iconst dX7_see_70 (n := 71) rfl ?_
        refine z_iadd dX7_see_71 (n := 72) rfl ?_
        refine z_putX dX7_see_72 (n := 75) rfl rfl fw_X7_99 (by first | decide | simp) rfl ?_
        refine z_aload_0 dX7_see_75 (n := 76) rfl ?_
        refine z_get dX7_see_76 (n := 79) rfl rfl fd_X7_99 rfl ?_
        refine z_ret_i dX7_see_79 rfl ?_
        exact Or.inr (Or.inr (Or.inr ⟨by omega, by omega, by omega, rfl, rfl⟩))
      · refine z_bipush dX7_see_32 (n := 34) rfl (by decide) ?_
        refine z_ret_i dX7_see_34 rfl ?_
        exact Or.inr (Or.inr (Or.inl ⟨by omega, by omega, by omega, rfl, rfl⟩))
    · refine z_bipush dX7_see_20 (n := 22) rfl (by decide) ?_
      refine z_ret_i dX7_see_22 rfl ?_
      exact Or.inr (Or.inl ⟨by omega, by omega, rfl, rfl⟩)
  · refine z_bipush dX7_see_8 (n := 10) rfl (by decide) ?_
    refine z_ret_i dX7_see_10 rfl ?_
    exact Or.inl ⟨by omega, rfl, rfl⟩
set_option maxHeartbeats 4000000 in
theorem c_X7_forget {G : zG} {sz : zSz} {ar : zAr}  : zSem G mX7_forget 0 [zR 41] (X sz ar) (zpi fun r u => r = sz 41 6 ∧ u = X (zz sz 41 6 0) ar) := by
  refine z_enter (L' := [some (zR 41), none]) (by decide +kernel) (Nat.le_of_ble_eq_true rfl) ⟨1, rfl⟩ ?_
  refine z_aload_0 dX7_forget_0 (n := 1) rfl ?_
  refine z_get dX7_forget_1 (n := 4) rfl rfl fd_X7_99 rfl ?_
  refine z_istore_1 dX7_forget_4 (n := 5) rfl (by decide) (fun w h => by cases h; try rfl) ?_
  refine z_aload_0 dX7_forget_5 (n := 6) rfl ?_
  refine z_iconst dX7_forget_6 (n := 7) rfl ?_
  refine z_putX dX7_forget_7 (n := 10) rfl rfl fw_X7_99 (by first | decide | simp) rfl ?_
  refine z_iload_1 dX7_forget_10 (n := 11) rfl ?_
  refine z_ret_i dX7_forget_11 rfl ?_
  exact ⟨rfl, rfl⟩
