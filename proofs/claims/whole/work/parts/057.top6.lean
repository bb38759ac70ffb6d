/-! TreeActs: digest -/
theorem bq_r (v : Int) : -1 ≤ bq v ∧ bq v ≤ 3 := by
  have key : ∀ (a : Int × Int) (q : Int), 0 ≤ q → q ≤ 3 → -1 ≤ a.1 → a.1 ≤ 3 → -1 ≤ (bqS v a q).1 ∧ (bqS v a q).1 ≤ 3 := by
    intro a q h0 h1 h2 h3
    unfold bqS
    split
    · exact ⟨by show -1 ≤ q; omega, h1⟩
    · exact ⟨h2, h3⟩
  unfold bq
  split
  · decide
  · have a1 := key (0, lft v 0) 1 (by decide) (by decide) (show (-1 : Int) ≤ 0 by decide) (show (0 : Int) ≤ 3 by decide)
    have a2 := key _ 2 (by decide) (by decide) a1.1 a1.2
    exact key _ 3 (by decide) (by decide) a2.1 a2.2
theorem stV_r {n : Int} {kd nx so : Int → Int} (hM : MOK n kd nx) (hso : ∀ s, 0 ≤ s → s < 6 → 0 ≤ so s ∧ so s < 32) {s q : Int} (h0 : 0 ≤ s) (h1 : s < n) : zr (stV n kd nx so s q) := by
  have hn := hM.2.1
  have a := hM.2.2.1 s h0 h1
  have b := hM.2.2.2 (2 * s + 0) (by omega) (by omega)
  have c := hM.2.2.2 (2 * s + 1) (by omega) (by omega)
  have d := rch_r hM h0 h1
  have e := zb_r (inC kd nx n s)
  have f := lea_r kd nx h0
  have g := hso s h0 (by omega)
  have h := bq_r (so s)
  have e6 : (2 : Int) ^ 6 = 64 := by decide
  rw [e6] at d
  unfold stV
  split
  · exact ⟨by omega, by omega⟩
  split
  · exact ⟨by omega, by omega⟩
  split
  · exact ⟨by omega, by omega⟩
  split
  · exact ⟨by omega, by omega⟩
  split
  · exact ⟨by omega, by omega⟩
  split
  · exact ⟨by omega, by omega⟩
  split
  · exact ⟨by omega, by omega⟩
  · exact ⟨by omega, by omega⟩
noncomputable def stK (n : Int) (kd nx so : Int → Int) (s : Int) : Nat → Int → Int
  | 0, h => h
  | k + 1, h => 31 * stK n kd nx so s k h + stV n kd nx so s k
noncomputable def stH (n : Int) (kd nx so : Int → Int) : Nat → Int → Int
  | 0, h => h
  | s + 1, h => stK n kd nx so s 8 (stH n kd nx so s h)
def ltH (xs : List Int) (h : Int) : Int := xs.foldl (fun h l => 31 * h + cdl l) h
def flH (kd nx : Int → Int) (xs : List Int) : Nat → Int → Int
  | 0, h => h
  | k + 1, h => 31 * flH kd nx xs k h + fbk kd nx k xs (2 ^ k)
def dgT (kd nx : Int → Int) (xs : List Int) (x : Int) : Int := 31 * (31 * flH kd nx xs 4 (31 * x + ntw kd nx xs) + rwd kd nx 6 xs 0) + rwd kd nx 6 xs 5
def dgW (kd nx : Int → Int) (xs : List Int) (h : Int) : Int := dgT kd nx xs (ltH xs h)
def pgH (c : Int → Int) : Nat → Int → Int
  | 0, h => h
  | k + 1, h => 31 * pgH c k h + c k
noncomputable def cnH (n : Int) (kd nx : Int → Int) (wl se pl mr : Int) : Nat → Int → Int
  | 0, h => h
  | k + 1, h => 31 * cnH n kd nx wl se pl mr k h + cnV n kd nx wl se pl mr k
noncomputable def dig (n : Int) (kd nx so : Int → Int) (ws : Int → List Int) (c : Int → Int) (wl se pl mr : Int) : Int :=
  cnH n kd nx wl se pl mr 7 (pgH c pl.toNat (if 0 < n then dgW kd nx (ws 2) (dgW kd nx (ws 1) (dgW kd nx (ws 0) (stH n kd nx so n.toNat 1471))) else stH n kd nx so n.toNat 1471))
set_option maxHeartbeats 4000000 in
theorem lf_X6_digestOfWord {G : zG} {ws : Int → List Int} {sz : zSz} {ar : zAr} {w h0 : Int} (hC : CK ws sz ar) (hw0 : 0 ≤ w) (hw1 : w < 3) (hn : 0 < sz 3 4) :
    ∀ (m k : Nat) (h : Int) (sz' : zSz) (ar' : zAr), k + m = 4 → Fg sz ar sz' ar' →
    zWP G mX6_digestOfWord 6 (zpl fun r u => r = 31 * (31 * flH (ar 4) (ar 5) (ws w) 4 h0 + rwd (ar 4) (ar 5) 6 (ws w) 0) + rwd (ar 4) (ar 5) 6 (ws w) 5 ∧ ∃ sz' ar', u = X sz' ar' ∧ Fg sz ar sz' ar') 61 [some (zR 0), some (zL h), none, some (zI w), some (zL (flH (ar 4) (ar 5) (ws w) k h0)), none, some (zI k)] [] (X sz' ar') := by
  intro m
  induction m with
  | zero =>
    intro k h sz' ar' hk hF
    have ek : k = 4 := by omega
    subst ek
    have e3 : sz' 3 = sz 3 := hF.1 3 (by omega)
    have e4 : ar' 4 = ar 4 := hF.2 4 (by omega) (by omega) (by omega)
    have e5 : ar' 5 = ar 5 := hF.2 5 (by omega) (by omega) (by omega)
    have hC' := hC.g hF
    have r0 := rwd_r (ar 4) (ar 5) 6 (ws w) 0 (by decide) (by decide)
    have r5 := rwd_r (ar 4) (ar 5) 6 (ws w) 5 (by decide) (by decide)
    refine z_iload_6 dX6_digestOfWord_61 (n := 63) rfl ?_
    refine z_iconst dX6_digestOfWord_63 (n := 64) rfl ?_
    refine z_icmp_gt dX6_digestOfWord_64 (n := 67) (tg := 90) rfl (by decide) (by first | assumption | exact ⟨by omega, by omega⟩ | exact zb_zr _) (by first | assumption | exact ⟨by omega, by omega⟩ | exact zb_zr _) (fun c64 => ?_) (fun c64 => ?_)
    · refine z_ldc2 dX6_digestOfWord_90 (n := 93) rfl kn_X6_227 ?_
      refine z_lload_4 dX6_digestOfWord_93 (n := 95) rfl ?_
      refine z_lmul dX6_digestOfWord_95 (n := 96) rfl ?_
      refine z_aload_0 dX6_digestOfWord_96 (n := 97) rfl ?_
      refine z_iload_3 dX6_digestOfWord_97 (n := 98) rfl ?_
      refine z_iconst dX6_digestOfWord_98 (n := 99) rfl ?_
      refine z_bipush dX6_digestOfWord_99 (n := 101) rfl (by decide) ?_
      refine z_callV3i dX6_digestOfWord_101 (n := 104) rfl mv_X6_act lk_X6_248 rfl (zrm (by decide) (by decide)) (Nat.le_of_ble_eq_true rfl) (c_X6_act (by first | assumption | exact ⟨by omega, by omega⟩ | exact zb_zr _) (by first | assumption | exact ⟨by omega, by omega⟩ | exact zb_zr _) (by first | assumption | exact ⟨by omega, by omega⟩ | exact zb_zr _) hC') (fun r u hp => ?_)
      obtain ⟨rfl, rfl⟩ := hp
      rw [e3, e4, e5, if_neg (fun z => z ⟨hw0, hw1, hn⟩), if_neg (fun z => z ⟨by decide, by decide, by decide, by decide⟩)]
      rw [show (6 : Int).toNat = 6 from rfl]
      refine z_i2l dX6_digestOfWord_104 (n := 105) rfl (by first | assumption | exact ⟨by omega, by omega⟩ | exact zb_zr _) ?_
      refine z_ladd dX6_digestOfWord_105 (n := 106) rfl ?_
      refine z_lstore_4 dX6_digestOfWord_106 (n := 108) rfl (by decide) (fun w h => by cases h; try rfl) ?_
      refine z_ldc2 dX6_digestOfWord_108 (n := 111) rfl kn_X6_227 ?_
      refine z_lload_4 dX6_digestOfWord_111 (n := 113) rfl ?_
      refine z_lmul dX6_digestOfWord_113 (n := 114) rfl ?_
      refine z_aload_0 dX6_digestOfWord_114 (n := 115) rfl ?_
      refine z_iload_3 dX6_digestOfWord_115 (n := 116) rfl ?_
      refine z_iconst dX6_digestOfWord_116 (n := 117) rfl ?_
      refine z_bipush dX6_digestOfWord_117 (n := 119) rfl (by decide) ?_
      refine z_callV3i dX6_digestOfWord_119 (n := 122) rfl mv_X6_act lk_X6_248 rfl (zrm (by decide) (by decide)) (Nat.le_of_ble_eq_true rfl) (c_X6_act (by first | assumption | exact ⟨by omega, by omega⟩ | exact zb_zr _) (by first | assumption | exact ⟨by omega, by omega⟩ | exact zb_zr _) (by first | assumption | exact ⟨by omega, by omega⟩ | exact zb_zr _) hC') (fun r u hp => ?_)
      obtain ⟨rfl, rfl⟩ := hp
      rw [e3, e4, e5, if_neg (fun z => z ⟨hw0, hw1, hn⟩), if_neg (fun z => z ⟨by decide, by decide, by decide, by decide⟩)]
      rw [show (6 : Int).toNat = 6 from rfl]
      refine z_i2l dX6_digestOfWord_122 (n := 123) rfl (by first | assumption | exact ⟨by omega, by omega⟩ | exact zb_zr _) ?_
      refine z_ladd dX6_digestOfWord_123 (n := 124) rfl ?_
      refine z_ret_l dX6_digestOfWord_124 rfl ?_
      exact ⟨rfl, _, _, rfl, hF⟩
    · exfalso; omega
  | succ m ih =>
    intro k h sz' ar' hk hF
    have e3 : sz' 3 = sz 3 := hF.1 3 (by omega)
    have e4 : ar' 4 = ar 4 := hF.2 4 (by omega) (by omega) (by omega)
    have e5 : ar' 5 = ar 5 := hF.2 5 (by omega) (by omega) (by omega)
    have hC' := hC.g hF
    have hr := fbk_r (ar 4) (ar 5) k (ws w) (2 ^ k)
    have e8 : ∀ k : Nat, k < 4 → (2 : Int) ^ (2 ^ k) ≤ 256 := by decide
    have h8i := e8 k (by omega)
    have h9 := ih (k + 1) h sz' ar' (by omega) hF
    rw [show ((k + 1 : Nat) : Int) = (k : Int) + 1 by omega, show flH (ar 4) (ar 5) (ws w) (k + 1) h0 = 31 * flH (ar 4) (ar 5) (ws w) k h0 + fbk (ar 4) (ar 5) k (ws w) (2 ^ k) from rfl] at h9
    refine z_iload_6 dX6_digestOfWord_61 (n := 63) rfl ?_
    refine z_iconst dX6_digestOfWord_63 (n := 64) rfl ?_
    refine z_icmp_gt dX6_digestOfWord_64 (n := 67) (tg := 90) rfl (by decide) (by first | assumption | exact ⟨by omega, by omega⟩ | exact zb_zr _) (by first | assumption | exact ⟨by omega, by omega⟩ | exact zb_zr _) (fun c64 => ?_) (fun c64 => ?_)
    · exfalso; omega
    · refine z_ldc2 dX6_digestOfWord_67 (n := 70) rfl kn_X6_227 ?_
      refine z_lload_4 dX6_digestOfWord_70 (n := 72) rfl ?_
      refine z_lmul dX6_digestOfWord_72 (n := 73) rfl ?_
      refine z_aload_0 dX6_digestOfWord_73 (n := 74) rfl ?_
      refine z_iload_3 dX6_digestOfWord_74 (n := 75) rfl ?_
      refine z_iload_6 dX6_digestOfWord_75 (n := 77) rfl ?_
      refine z_callV2i dX6_digestOfWord_77 (n := 80) rfl mv_X6_flips lk_X6_245 rfl (zrm (by decide) (by decide)) (Nat.le_of_ble_eq_true rfl) (c_X6_flips (by first | assumption | exact ⟨by omega, by omega⟩ | exact zb_zr _) (by first | assumption | exact ⟨by omega, by omega⟩ | exact zb_zr _) hC') (fun r u hp => ?_)
      obtain ⟨rfl, rfl⟩ := hp
      rw [e3, e4, e5, if_neg (fun z => z ⟨hw0, hw1, hn⟩), if_neg (fun z => z ⟨by omega, by omega⟩)]
      rw [show ((k : Int)).toNat = k from rfl]
      refine z_i2l dX6_digestOfWord_80 (n := 81) rfl (by first | assumption | exact ⟨by omega, by omega⟩ | exact zb_zr _) ?_
      refine z_ladd dX6_digestOfWord_81 (n := 82) rfl ?_
      refine z_lstore_4 dX6_digestOfWord_82 (n := 84) rfl (by decide) (fun w h => by cases h; try rfl) ?_
      refine z_iinc_6 dX6_digestOfWord_84 (n := 87) rfl (by decide) (fun w h => by cases h; try rfl) ?_
      refine z_goto dX6_digestOfWord_87 (n := 61) (by decide) ?_
      exact h9
set_option maxHeartbeats 4000000 in
theorem ll_X6_digestOfWord {G : zG} {ws : Int → List Int} {sz : zSz} {ar : zAr} {w h0 : Int} (hC : CK ws sz ar) (hw0 : 0 ≤ w) (hw1 : w < 3) (hn : 0 < sz 3 4) :
    ∀ (rest pre : List Int) (h : Int), ws w = pre ++ rest →
    zWP G mX6_digestOfWord 6 (zpl fun r u => r = dgT (ar 4) (ar 5) (ws w) (ltH rest h) ∧ ∃ sz' ar', u = X sz' ar' ∧ Fg sz ar sz' ar') 6 [some (zR 0), some (zL h0), none, some (zI w), some (zL h), none, some (zI pre.length)] [] (X sz ar) := by
  have hk := isLw hw0 hw1
  have hcp := capw hw0 hw1
  have hL := hC.2.2.1 w hw0 hw1
  have hn6 := hC.1.2.1
  have hl := hL.1.1
  intro rest
  induction rest with
  | nil =>
    intro pre h e
    have el : (ws w).length = pre.length := by rw [e]; simp
    have hnr := ntw_r (ar 4) (ar 5) (ws w)
    refine z_iload_6 dX6_digestOfWord_6 (n := 8) rfl ?_
    refine z_aload_0 dX6_digestOfWord_8 (n := 9) rfl ?_
    refine z_get dX6_digestOfWord_9 (n := 12) rfl rfl fd_X6_28 rfl ?_
    refine z_iload_3 dX6_digestOfWord_12 (n := 13) rfl ?_
    refine z_aald dX6_digestOfWord_13 (n := 14) rfl rfl (by omega) (by omega) (by decide) ?_
    refine z_callV0i dX6_digestOfWord_14 (n := 17) rfl mv_X1_size lk_X6_115 (XL1 hk) (zrm (by decide) (by decide)) (Nat.le_of_ble_eq_true rfl) (c_X1_size hk) (fun r u hp => ?_)
    obtain ⟨rfl, rfl⟩ := hp
    refine z_icmp_ge dX6_digestOfWord_17 (n := 20) (tg := 43) rfl (by decide) (by first | assumption | exact ⟨by omega, by omega⟩ | exact zb_zr _) (by first | assumption | exact ⟨by omega, by omega⟩ | exact zb_zr _) (fun c17 => ?_) (fun c17 => ?_)
    · refine z_ldc2 dX6_digestOfWord_43 (n := 46) rfl kn_X6_227 ?_
      refine z_lload_4 dX6_digestOfWord_46 (n := 48) rfl ?_
      refine z_lmul dX6_digestOfWord_48 (n := 49) rfl ?_
      refine z_aload_0 dX6_digestOfWord_49 (n := 50) rfl ?_
      refine z_iload_3 dX6_digestOfWord_50 (n := 51) rfl ?_
      refine z_callV1i dX6_digestOfWord_51 (n := 54) rfl mv_X6_nothing lk_X6_242 rfl (zrm (by decide) (by decide)) (Nat.le_of_ble_eq_true rfl) (c_X6_nothing (by first | assumption | exact ⟨by omega, by omega⟩ | exact zb_zr _) hC) (fun r u hp => ?_)
      obtain ⟨rfl, sz2, ar2, rfl, hF2⟩ := hp
      rw [if_neg (fun z => z ⟨hw0, hw1, hn⟩)]
      refine z_i2l dX6_digestOfWord_54 (n := 55) rfl (by first | assumption | exact ⟨by omega, by omega⟩ | exact zb_zr _) ?_
      refine z_ladd dX6_digestOfWord_55 (n := 56) rfl ?_
      refine z_lstore_4 dX6_digestOfWord_56 (n := 58) rfl (by decide) (fun w h => by cases h; try rfl) ?_
      refine z_iconst dX6_digestOfWord_58 (n := 59) rfl ?_
      refine z_istore_6 dX6_digestOfWord_59 (n := 61) rfl (by decide) (fun w h => by cases h; try rfl) ?_
      exact lf_X6_digestOfWord hC hw0 hw1 hn 4 0 h0 sz2 ar2 (by omega) hF2
    · exfalso; omega
  | cons a t ih =>
    intro pre h e
    have el : (ws w).length = pre.length + (t.length + 1) := by rw [e]; simp
    have ha := hL.2.1 a (by rw [e]; simp)
    have hg : (ws w).getD pre.length 0 = a := by rw [e]; simp
    have hcd : 0 ≤ cdl a ∧ cdl a < 128 := by unfold cdl; split <;> omega
    have h9 := ih (pre ++ [a]) (31 * h + cdl a) (by rw [e]; simp)
    rw [show ((pre ++ [a]).length : Int) = (pre.length : Int) + 1 by simp] at h9
    refine z_iload_6 dX6_digestOfWord_6 (n := 8) rfl ?_
    refine z_aload_0 dX6_digestOfWord_8 (n := 9) rfl ?_
    refine z_get dX6_digestOfWord_9 (n := 12) rfl rfl fd_X6_28 rfl ?_
    refine z_iload_3 dX6_digestOfWord_12 (n := 13) rfl ?_
    refine z_aald dX6_digestOfWord_13 (n := 14) rfl rfl (by omega) (by omega) (by decide) ?_
    refine z_callV0i dX6_digestOfWord_14 (n := 17) rfl mv_X1_size lk_X6_115 (XL1 hk) (zrm (by decide) (by decide)) (Nat.le_of_ble_eq_true rfl) (c_X1_size hk) (fun r u hp => ?_)
    obtain ⟨rfl, rfl⟩ := hp
    refine z_icmp_ge dX6_digestOfWord_17 (n := 20) (tg := 43) rfl (by decide) (by first | assumption | exact ⟨by omega, by omega⟩ | exact zb_zr _) (by first | assumption | exact ⟨by omega, by omega⟩ | exact zb_zr _) (fun c17 => ?_) (fun c17 => ?_)
    · exfalso; omega
    · refine z_ldc2 dX6_digestOfWord_20 (n := 23) rfl kn_X6_227 ?_
      refine z_lload_4 dX6_digestOfWord_23 (n := 25) rfl ?_
      refine z_lmul dX6_digestOfWord_25 (n := 26) rfl ?_
      refine z_aload_0 dX6_digestOfWord_26 (n := 27) rfl ?_
      refine z_iload_3 dX6_digestOfWord_27 (n := 28) rfl ?_
      refine z_iload_6 dX6_digestOfWord_28 (n := 30) rfl ?_
      refine z_callV2i dX6_digestOfWord_30 (n := 33) rfl mv_X6_sign lk_X6_239 rfl (zrm (by decide) (by decide)) (Nat.le_of_ble_eq_true rfl) (c_X6_sign (by first | assumption | exact ⟨by omega, by omega⟩ | exact zb_zr _) (by first | assumption | exact ⟨by omega, by omega⟩ | exact zb_zr _) hC) (fun r u hp => ?_)
      obtain ⟨rfl, rfl⟩ := hp
      rw [if_pos ⟨hw0, hw1, by omega, by omega⟩, Int.toNat_natCast, hg]
      refine z_i2l dX6_digestOfWord_33 (n := 34) rfl (by first | assumption | exact ⟨by omega, by omega⟩ | exact zb_zr _) ?_
      refine z_ladd dX6_digestOfWord_34 (n := 35) rfl ?_
      refine z_lstore_4 dX6_digestOfWord_35 (n := 37) rfl (by decide) (fun w h => by cases h; try rfl) ?_
      refine z_iinc_6 dX6_digestOfWord_37 (n := 40) rfl (by decide) (fun w h => by cases h; try rfl) ?_
      refine z_goto dX6_digestOfWord_40 (n := 6) (by decide) ?_
      exact h9
set_option maxHeartbeats 4000000 in
theorem c_X6_digestOfWord {G : zG} {sz : zSz} {ar : zAr} {ws : Int → List Int} {h w : Int} (hC : CK ws sz ar) (hw0 : 0 ≤ w) (hw1 : w < 3) (hn : 0 < sz 3 4)  : zSem G mX6_digestOfWord 6 [zR 0, zL h, zI w] (X sz ar) (zpl fun r u => r = dgW (ar 4) (ar 5) (ws w) h ∧ ∃ sz' ar', u = X sz' ar' ∧ Fg sz ar sz' ar') := by
  refine z_enter (L' := [some (zR 0), some (zL h), none, some (zI w), none, none, none]) (by decide +kernel) (Nat.le_of_ble_eq_true rfl) ⟨3, rfl⟩ ?_
  refine z_lload_1 dX6_digestOfWord_0 (n := 1) rfl ?_
  refine z_lstore_4 dX6_digestOfWord_1 (n := 3) rfl (by decide) (fun w h => by cases h; try rfl) ?_
  refine z_iconst dX6_digestOfWord_3 (n := 4) rfl ?_
  refine z_istore_6 dX6_digestOfWord_4 (n := 6) rfl (by decide) (fun w h => by cases h; try rfl) ?_
  exact ll_X6_digestOfWord hC hw0 hw1 hn (ws w) [] h rfl
theorem cnV_r {ws : Int → List Int} {sz : zSz} {ar : zAr} (hC : CK ws sz ar) (q : Int) : zr (cnV (sz 3 4) (ar 4) (ar 5) (sz 14 1 + sz 16 1 + sz 18 1) (sz 27 1) (sz 1 1) (sz 0 11) q) := by
  obtain ⟨hM, ⟨hp0, hp1, hc⟩, hW, ⟨hs0, hs1, hso⟩, hmr⟩ := hC
  have hn := hM.1
  have hn6 := hM.2.1
  have a := cnt_r (fun k => lea (ar 4) (ar 5) k = k) (sz 3 4).toNat
  have b := cnt_r (inC (ar 4) (ar 5) (sz 3 4)) (sz 3 4).toNat
  have l0 : sz 14 1 = (ws 0).length := (hW 0 (by omega) (by omega)).1.1
  have l1 : sz 16 1 = (ws 1).length := (hW 1 (by omega) (by omega)).1.1
  have l2 : sz 18 1 = (ws 2).length := (hW 2 (by omega) (by omega)).1.1
  have m0 := (hW 0 (by omega) (by omega)).2.2
  have m1 := (hW 1 (by omega) (by omega)).2.2
  have m2 := (hW 2 (by omega) (by omega)).2.2
  unfold cnV
  split
  · exact ⟨by omega, by omega⟩
  split
  · exact ⟨by omega, by omega⟩
  split
  · exact ⟨by omega, by omega⟩
  split
  · exact ⟨by omega, by omega⟩
  split
  · exact ⟨by omega, by omega⟩
  split
  · exact ⟨by omega, by omega⟩
  split
  · exact hmr
  · exact ⟨by decide, by decide⟩
theorem Fg.all {sz sz' : zSz} {ar ar' : zAr} (hF : Fg sz ar sz' ar') : sz' 3 = sz 3 ∧ sz' 1 = sz 1 ∧ sz' 27 = sz 27 ∧ sz' 0 = sz 0 ∧ sz' 14 = sz 14 ∧ sz' 16 = sz 16 ∧ sz' 18 = sz 18 ∧ ar' 4 = ar 4 ∧ ar' 5 = ar 5 ∧ ar' 28 = ar 28 ∧ ar' 2 = ar 2 :=
  ⟨hF.1 3 (by omega), hF.1 1 (by omega), hF.1 27 (by omega), hF.1 0 (by omega), hF.1 14 (by omega), hF.1 16 (by omega), hF.1 18 (by omega), hF.2 4 (by omega) (by omega) (by omega), hF.2 5 (by omega) (by omega) (by omega), hF.2 28 (by omega) (by omega) (by omega), hF.2 2 (by omega) (by omega) (by omega)⟩
set_option maxHeartbeats 8000000 in
theorem lc_X6_digest {G : zG} {ws : Int → List Int} {sz : zSz} {ar : zAr} {h0 : Int} (hC : CK ws sz ar) :
    ∀ (m k : Nat) (sz' : zSz) (ar' : zAr) (y : Option zV), k + m = 7 → Fg sz ar sz' ar' →
    zWP G mX6_digest 7 (zpl fun r u => r = cnH (sz 3 4) (ar 4) (ar 5) (sz 14 1 + sz 16 1 + sz 18 1) (sz 27 1) (sz 1 1) (sz 0 11) 7 h0 ∧ ∃ sz' ar', u = X sz' ar' ∧ Fg sz ar sz' ar') 121 [some (zR 0), some (zL (cnH (sz 3 4) (ar 4) (ar 5) (sz 14 1 + sz 16 1 + sz 18 1) (sz 27 1) (sz 1 1) (sz 0 11) k h0)), none, some (zI k), y] [] (X sz' ar') := by
  intro m
  induction m with
  | zero =>
    intro k sz' ar' y hk hF
    have ek : k = 7 := by omega
    subst ek
    refine z_iload_3 dX6_digest_121 (n := 122) rfl ?_
    refine z_bipush dX6_digest_122 (n := 124) rfl (by decide) ?_
    refine z_icmp_ge dX6_digest_124 (n := 127) (tg := 146) rfl (by decide) (by first | assumption | exact ⟨by omega, by omega⟩ | exact zb_zr _) (by first | assumption | exact ⟨by omega, by omega⟩ | exact zb_zr _) (fun c124 => ?_) (fun c124 => ?_)
    · refine z_lload_1 dX6_digest_146 (n := 147) rfl ?_
      refine z_ret_l dX6_digest_147 rfl ?_
      exact ⟨rfl, _, _, rfl, hF⟩
    · exfalso; omega
  | succ m ih =>
    intro k sz' ar' y hk hF
    obtain ⟨e3, e1, e27, e0, e14, e16, e18, e4, e5, e28, e2⟩ := hF.all
    have hC' := hC.g hF
    have hr := cnV_r hC k
    refine z_iload_3 dX6_digest_121 (n := 122) rfl ?_
    refine z_bipush dX6_digest_122 (n := 124) rfl (by decide) ?_
    refine z_icmp_ge dX6_digest_124 (n := 127) (tg := 146) rfl (by decide) (by first | assumption | exact ⟨by omega, by omega⟩ | exact zb_zr _) (by first | assumption | exact ⟨by omega, by omega⟩ | exact zb_zr _) (fun c124 => ?_) (fun c124 => ?_)
    · exfalso; omega
    · refine z_ldc2 dX6_digest_127 (n := 130) rfl kn_X6_227 ?_
      refine z_lload_1 dX6_digest_130 (n := 131) rfl ?_
      refine z_lmul dX6_digest_131 (n := 132) rfl ?_
      refine z_aload_0 dX6_digest_132 (n := 133) rfl ?_
      refine z_iload_3 dX6_digest_133 (n := 134) rfl ?_
      refine z_callV1i dX6_digest_134 (n := 137) rfl mv_X6_count lk_X6_236 rfl (zrm (by decide) (by decide)) (Nat.le_of_ble_eq_true rfl) (c_X6_count (by first | assumption | exact ⟨by omega, by omega⟩ | exact zb_zr _) hC') (fun r u hp => ?_)
      obtain ⟨rfl, sz2, ar2, rfl, hF2⟩ := hp
      rw [e3, e4, e5, e14, e16, e18, e27, e1, e0]
      refine z_i2l dX6_digest_137 (n := 138) rfl (by first | assumption | exact ⟨by omega, by omega⟩ | exact zb_zr _) ?_
      refine z_ladd dX6_digest_138 (n := 139) rfl ?_
      refine z_lstore_1 dX6_digest_139 (n := 140) rfl (by decide) (fun w h => by cases h; try rfl) ?_
      refine z_iinc_3 dX6_digest_140 (n := 143) rfl (by decide) (fun w h => by cases h; try rfl) ?_
      refine z_goto dX6_digest_143 (n := 121) (by decide) ?_
      have h9 := ih (k + 1) sz2 ar2 y (by omega) (hF.tr hF2)
      rw [show ((k + 1 : Nat) : Int) = (k : Int) + 1 by omega] at h9
      exact h9
set_option maxHeartbeats 8000000 in
theorem lp_X6_digest {G : zG} {ws : Int → List Int} {sz : zSz} {ar : zAr} {h0 : Int} (hC : CK ws sz ar) :
    ∀ (m k : Nat) (sz' : zSz) (ar' : zAr) (y : Option zV), (k : Int) + m = sz 1 1 → Fg sz ar sz' ar' →
    zWP G mX6_digest 7 (zpl fun r u => r = cnH (sz 3 4) (ar 4) (ar 5) (sz 14 1 + sz 16 1 + sz 18 1) (sz 27 1) (sz 1 1) (sz 0 11) 7 (pgH (ar 2) (sz 1 1).toNat h0) ∧ ∃ sz' ar', u = X sz' ar' ∧ Fg sz ar sz' ar') 86 [some (zR 0), some (zL (pgH (ar 2) k h0)), none, some (zI k), y] [] (X sz' ar') := by
  have hp0 := hC.2.1.1
  have hp1 := hC.2.1.2.1
  have hcz := hC.2.1.2.2
  intro m
  induction m with
  | zero =>
    intro k sz' ar' y hk hF
    have ek : k = (sz 1 1).toNat := by omega
    subst ek
    have e1 : sz' 1 = sz 1 := hF.1 1 (by omega)
    refine z_iload_3 dX6_digest_86 (n := 87) rfl ?_
    refine z_aload_0 dX6_digest_87 (n := 88) rfl ?_
    refine z_get dX6_digest_88 (n := 91) rfl rfl fd_X6_12 rfl ?_
    refine z_callV0i dX6_digest_91 (n := 94) rfl mv_X2_size lk_X6_78 rfl (zrm (by decide) (by decide)) (Nat.le_of_ble_eq_true rfl) (c_X2_size) (fun r u hp => ?_)
    obtain ⟨rfl, rfl⟩ := hp
    rw [e1]
    refine z_icmp_ge dX6_digest_94 (n := 97) (tg := 119) rfl (by decide) (by first | assumption | exact ⟨by omega, by omega⟩ | exact zb_zr _) (by first | assumption | exact ⟨by omega, by omega⟩ | exact zb_zr _) (fun c94 => ?_) (fun c94 => ?_)
    · refine z_iconst dX6_digest_119 (n := 120) rfl ?_
      refine z_istore_3 dX6_digest_120 (n := 121) rfl (by decide) (fun w h => by cases h; try rfl) ?_
      exact lc_X6_digest hC 7 0 sz' ar' y (by omega) hF
    · exfalso; omega
  | succ m ih =>
    intro k sz' ar' y hk hF
    have e1 : sz' 1 = sz 1 := hF.1 1 (by omega)
    have e2 : ar' 2 = ar 2 := hF.2 2 (by omega) (by omega) (by omega)
    have h9 := ih (k + 1) sz' ar' y (by omega) hF
    rw [show ((k + 1 : Nat) : Int) = (k : Int) + 1 by omega] at h9
    refine z_iload_3 dX6_digest_86 (n := 87) rfl ?_
    refine z_aload_0 dX6_digest_87 (n := 88) rfl ?_
    refine z_get dX6_digest_88 (n := 91) rfl rfl fd_X6_12 rfl ?_
    refine z_callV0i dX6_digest_91 (n := 94) rfl mv_X2_size lk_X6_78 rfl (zrm (by decide) (by decide)) (Nat.le_of_ble_eq_true rfl) (c_X2_size) (fun r u hp => ?_)
    obtain ⟨rfl, rfl⟩ := hp
    rw [e1]
    refine z_icmp_ge dX6_digest_94 (n := 97) (tg := 119) rfl (by decide) (by first | exact hcz _ | assumption | exact ⟨by omega, by omega⟩ | exact zb_zr _) (by first | exact hcz _ | assumption | exact ⟨by omega, by omega⟩ | exact zb_zr _) (fun c94 => ?_) (fun c94 => ?_)
    · exfalso; omega
    · refine z_ldc2 dX6_digest_97 (n := 100) rfl kn_X6_227 ?_
      refine z_lload_1 dX6_digest_100 (n := 101) rfl ?_
      refine z_lmul dX6_digest_101 (n := 102) rfl ?_
      refine z_aload_0 dX6_digest_102 (n := 103) rfl ?_
      refine z_get dX6_digest_103 (n := 106) rfl rfl fd_X6_12 rfl ?_
      refine z_iload_3 dX6_digest_106 (n := 107) rfl ?_
      refine z_callV1i dX6_digest_107 (n := 110) rfl mv_X2_codeAt lk_X6_105 rfl (zrm (by decide) (by decide)) (Nat.le_of_ble_eq_true rfl) (c_X2_codeAt (by first | exact hcz _ | assumption | exact ⟨by omega, by omega⟩ | exact zb_zr _) (by rw [e1]; omega) (by rw [e1]; omega)) (fun r u hp => ?_)
      obtain ⟨rfl, rfl⟩ := hp
      rw [if_pos (by rw [e1]; omega), e2]
      refine z_i2l dX6_digest_110 (n := 111) rfl (by first | exact hcz _ | assumption | exact ⟨by omega, by omega⟩ | exact zb_zr _) ?_
      refine z_ladd dX6_digest_111 (n := 112) rfl ?_
      refine z_lstore_1 dX6_digest_112 (n := 113) rfl (by decide) (fun w h => by cases h; try rfl) ?_
      refine z_iinc_3 dX6_digest_113 (n := 116) rfl (by decide) (fun w h => by cases h; try rfl) ?_
      refine z_goto dX6_digest_116 (n := 86) (by decide) ?_
      exact h9
set_option maxHeartbeats 8000000 in
theorem ls_X6_digest {G : zG} {ws : Int → List Int} {sz : zSz} {ar : zAr} {h0 : Int} {s : Nat} {P : Option zV → zS → Prop} (hC : CK ws sz ar) (hs : (s : Int) < sz 3 4)
    (K : ∀ sz' ar', Fg sz ar sz' ar' → zWP G mX6_digest 7 P 48 [some (zR 0), some (zL (stK (sz 3 4) (ar 4) (ar 5) (ar 28) s 8 h0)), none, some (zI s), some (zI 8)] [] (X sz' ar')) :
    ∀ (m k : Nat) (sz' : zSz) (ar' : zAr), k + m = 8 → Fg sz ar sz' ar' →
    zWP G mX6_digest 7 P 20 [some (zR 0), some (zL (stK (sz 3 4) (ar 4) (ar 5) (ar 28) s k h0)), none, some (zI s), some (zI k)] [] (X sz' ar') := by
  have hn6 := hC.1.2.1
  intro m
  induction m with
  | zero =>
    intro k sz' ar' hk hF
    have ek : k = 8 := by omega
    subst ek
    refine z_iload_4 dX6_digest_20 (n := 22) rfl ?_
    refine z_bipush dX6_digest_22 (n := 24) rfl (by decide) ?_
    refine z_icmp_ge dX6_digest_24 (n := 27) (tg := 48) rfl (by decide) (by first | assumption | exact ⟨by omega, by omega⟩ | exact zb_zr _) (by first | assumption | exact ⟨by omega, by omega⟩ | exact zb_zr _) (fun c24 => ?_) (fun c24 => ?_)
    · exact K sz' ar' hF
    · exfalso; omega
  | succ m ih =>
    intro k sz' ar' hk hF
    obtain ⟨e3, e1, e27, e0, e14, e16, e18, e4, e5, e28, e2⟩ := hF.all
    have hC' := hC.g hF
    have hr := stV_r (q := k) hC.1 hC.2.2.2.1.2.2 (s := s) (by omega) hs
    refine z_iload_4 dX6_digest_20 (n := 22) rfl ?_
    refine z_bipush dX6_digest_22 (n := 24) rfl (by decide) ?_
    refine z_icmp_ge dX6_digest_24 (n := 27) (tg := 48) rfl (by decide) (by first | assumption | exact ⟨by omega, by omega⟩ | exact zb_zr _) (by first | assumption | exact ⟨by omega, by omega⟩ | exact zb_zr _) (fun c24 => ?_) (fun c24 => ?_)
    · exfalso; omega
    · refine z_ldc2 dX6_digest_27 (n := 30) rfl kn_X6_227 ?_
      refine z_lload_1 dX6_digest_30 (n := 31) rfl ?_
      refine z_lmul dX6_digest_31 (n := 32) rfl ?_
      refine z_aload_0 dX6_digest_32 (n := 33) rfl ?_
      refine z_iload_3 dX6_digest_33 (n := 34) rfl ?_
      refine z_iload_4 dX6_digest_34 (n := 36) rfl ?_
      refine z_callV2i dX6_digest_36 (n := 39) rfl mv_X6_state lk_X6_229 rfl (zrm (by decide) (by decide)) (Nat.le_of_ble_eq_true rfl) (c_X6_state (by first | assumption | exact ⟨by omega, by omega⟩ | exact zb_zr _) (by first | assumption | exact ⟨by omega, by omega⟩ | exact zb_zr _) hC') (fun r u hp => ?_)
      obtain ⟨rfl, sz2, ar2, rfl, hF2⟩ := hp
      rw [e3, e4, e5, e28, if_neg (fun z => z ⟨by omega, by omega⟩), if_neg (fun z => z ⟨by omega, by omega⟩)]
      refine z_i2l dX6_digest_39 (n := 40) rfl (by first | assumption | exact ⟨by omega, by omega⟩ | exact zb_zr _) ?_
      refine z_ladd dX6_digest_40 (n := 41) rfl ?_
      refine z_lstore_1 dX6_digest_41 (n := 42) rfl (by decide) (fun w h => by cases h; try rfl) ?_
      refine z_iinc_4 dX6_digest_42 (n := 45) rfl (by decide) (fun w h => by cases h; try rfl) ?_
      refine z_goto dX6_digest_45 (n := 20) (by decide) ?_
      have h9 := ih (k + 1) sz2 ar2 (by omega) (hF.tr hF2)
      rw [show ((k + 1 : Nat) : Int) = (k : Int) + 1 by omega] at h9
      exact h9
set_option maxHeartbeats 8000000 in
set_option maxHeartbeats 4000000 in
theorem c_X6_digest {G : zG} {sz : zSz} {ar : zAr} {ws : Int → List Int} (hC : CK ws sz ar)  : zSem G mX6_digest 7 [zR 0] (X sz ar) (zpl fun r u => r = dig (sz 3 4) (ar 4) (ar 5) (ar 28) ws (ar 2) (sz 14 1 + sz 16 1 + sz 18 1) (sz 27 1) (sz 1 1) (sz 0 11) ∧ ∃ sz' ar', u = X sz' ar' ∧ Fg sz ar sz' ar') := by
  refine z_enter (L' := [some (zR 0), none, none, none, none]) (by decide +kernel) (Nat.le_of_ble_eq_true rfl) ⟨4, rfl⟩ ?_
  have hn := hC.1.1
  have hn6 := hC.1.2.1
  have hp0 := hC.2.1.1
  have HO : ∀ (m s : Nat) (sz' : zSz) (ar' : zAr) (y : Option zV), (s : Int) + m = sz 3 4 → Fg sz ar sz' ar' → zWP G mX6_digest 7 (zpl fun r u => r = dig (sz 3 4) (ar 4) (ar 5) (ar 28) ws (ar 2) (sz 14 1 + sz 16 1 + sz 18 1) (sz 27 1) (sz 1 1) (sz 0 11) ∧ ∃ sz' ar', u = X sz' ar' ∧ Fg sz ar sz' ar') 6 [some (zR 0), some (zL (stH (sz 3 4) (ar 4) (ar 5) (ar 28) s 1471)), none, some (zI s), y] [] (X sz' ar') := by
    intro m
    induction m with
    | zero =>
      intro s sz' ar' y hs hF
      have es : s = (sz 3 4).toNat := by omega
      subst es
      have e3 : sz' 3 = sz 3 := hF.1 3 (by omega)
      unfold dig
      refine z_iload_3 dX6_digest_6 (n := 7) rfl ?_
      refine z_aload_0 dX6_digest_7 (n := 8) rfl ?_
      refine z_get dX6_digest_8 (n := 11) rfl rfl fd_X6_19 rfl ?_
      refine z_callV0i dX6_digest_11 (n := 14) rfl mv_X3_size lk_X6_98 rfl (zrm (by decide) (by decide)) (Nat.le_of_ble_eq_true rfl) (c_X3_size) (fun r u hp => ?_)
      obtain ⟨rfl, rfl⟩ := hp
      rw [e3]
      refine z_icmp_ge dX6_digest_14 (n := 17) (tg := 54) rfl (by decide) (by first | assumption | exact ⟨by omega, by omega⟩ | exact zb_zr _) (by first | assumption | exact ⟨by omega, by omega⟩ | exact zb_zr _) (fun c14 => ?_) (fun c14 => ?_)
      · refine z_aload_0 dX6_digest_54 (n := 55) rfl ?_
        refine z_get dX6_digest_55 (n := 58) rfl rfl fd_X6_19 rfl ?_
        refine z_callV0i dX6_digest_58 (n := 61) rfl mv_X3_size lk_X6_98 rfl (zrm (by decide) (by decide)) (Nat.le_of_ble_eq_true rfl) (c_X3_size) (fun r u hp => ?_)
        obtain ⟨rfl, rfl⟩ := hp
        rw [e3]
        refine z_if_le dX6_digest_61 (n := 64) (tg := 84) rfl (by decide) (by first | assumption | exact ⟨by omega, by omega⟩ | exact zb_zr _) (fun c61 => ?_) (fun c61 => ?_)
        · rw [if_neg (by omega)]
          refine z_iconst dX6_digest_84 (n := 85) rfl ?_
          refine z_istore_3 dX6_digest_85 (n := 86) rfl (by decide) (fun w h => by cases h; try rfl) ?_
          exact lp_X6_digest hC (sz 1 1).toNat 0 sz' ar' y (by omega) hF
        · rw [if_pos (by omega)]
          refine z_iconst dX6_digest_64 (n := 65) rfl ?_
          refine z_istore_3 dX6_digest_65 (n := 66) rfl (by decide) (fun w h => by cases h; try rfl) ?_
          refine z_iload_3 dX6_digest_66 (n := 67) rfl ?_
          refine z_iconst dX6_digest_67 (n := 68) rfl ?_
          refine z_icmp_ge dX6_digest_68 (n := 71) (tg := 84) rfl (by decide) (by first | assumption | exact ⟨by omega, by omega⟩ | exact zb_zr _) (by first | assumption | exact ⟨by omega, by omega⟩ | exact zb_zr _) (fun c68 => ?_) (fun c68 => ?_)
          · exfalso; omega
          · refine z_aload_0 dX6_digest_71 (n := 72) rfl ?_
            refine z_lload_1 dX6_digest_72 (n := 73) rfl ?_
            refine z_iload_3 dX6_digest_73 (n := 74) rfl ?_
            refine z_callV2l dX6_digest_74 (n := 77) rfl mv_X6_digestOfWord lk_X6_232 rfl (zrm (by decide) (by decide)) (Nat.le_of_ble_eq_true rfl) (c_X6_digestOfWord (hC.g hF) (by omega) (by omega) (by rw [e3]; omega)) (fun r u hp => ?_)
            obtain ⟨rfl, sz2, ar2, rfl, hF2⟩ := hp
            have hFb := hF.tr hF2
            rw [hF.2 4 (by omega) (by omega) (by omega), hF.2 5 (by omega) (by omega) (by omega)]
            refine z_lstore_1 dX6_digest_77 (n := 78) rfl (by decide) (fun w h => by cases h; try rfl) ?_
            refine z_iinc_3 dX6_digest_78 (n := 81) rfl (by decide) (fun w h => by cases h; try rfl) ?_
            refine z_goto dX6_digest_81 (n := 66) (by decide) ?_
            rw [show (0 : Int) + 1 = 1 from rfl]
            refine z_iload_3 dX6_digest_66 (n := 67) rfl ?_
            refine z_iconst dX6_digest_67 (n := 68) rfl ?_
            refine z_icmp_ge dX6_digest_68 (n := 71) (tg := 84) rfl (by decide) (by first | assumption | exact ⟨by omega, by omega⟩ | exact zb_zr _) (by first | assumption | exact ⟨by omega, by omega⟩ | exact zb_zr _) (fun c68 => ?_) (fun c68 => ?_)
            · exfalso; omega
            · refine z_aload_0 dX6_digest_71 (n := 72) rfl ?_
              refine z_lload_1 dX6_digest_72 (n := 73) rfl ?_
              refine z_iload_3 dX6_digest_73 (n := 74) rfl ?_
              refine z_callV2l dX6_digest_74 (n := 77) rfl mv_X6_digestOfWord lk_X6_232 rfl (zrm (by decide) (by decide)) (Nat.le_of_ble_eq_true rfl) (c_X6_digestOfWord (hC.g hFb) (by omega) (by omega) (by rw [hFb.1 3 (by omega)]; omega)) (fun r u hp => ?_)
              obtain ⟨rfl, sz3, ar3, rfl, hF3⟩ := hp
              have hFc := hFb.tr hF3
              rw [hFb.2 4 (by omega) (by omega) (by omega), hFb.2 5 (by omega) (by omega) (by omega)]
              refine z_lstore_1 dX6_digest_77 (n := 78) rfl (by decide) (fun w h => by cases h; try rfl) ?_
              refine z_iinc_3 dX6_digest_78 (n := 81) rfl (by decide) (fun w h => by cases h; try rfl) ?_
              refine z_goto dX6_digest_81 (n := 66) (by decide) ?_
              rw [show (1 : Int) + 1 = 2 from rfl]
              refine z_iload_3 dX6_digest_66 (n := 67) rfl ?_
              refine z_iconst dX6_digest_67 (n := 68) rfl ?_
              refine z_icmp_ge dX6_digest_68 (n := 71) (tg := 84) rfl (by decide) (by first | assumption | exact ⟨by omega, by omega⟩ | exact zb_zr _) (by first | assumption | exact ⟨by omega, by omega⟩ | exact zb_zr _) (fun c68 => ?_) (fun c68 => ?_)
              · exfalso; omega
              · refine z_aload_0 dX6_digest_71 (n := 72) rfl ?_
                refine z_lload_1 dX6_digest_72 (n := 73) rfl ?_
                refine z_iload_3 dX6_digest_73 (n := 74) rfl ?_
                refine z_callV2l dX6_digest_74 (n := 77) rfl mv_X6_digestOfWord lk_X6_232 rfl (zrm (by decide) (by decide)) (Nat.le_of_ble_eq_true rfl) (c_X6_digestOfWord (hC.g hFc) (by omega) (by omega) (by rw [hFc.1 3 (by omega)]; omega)) (fun r u hp => ?_)
                obtain ⟨rfl, sz4, ar4, rfl, hF4⟩ := hp
                have hFd := hFc.tr hF4
                rw [hFc.2 4 (by omega) (by omega) (by omega), hFc.2 5 (by omega) (by omega) (by omega)]
                refine z_lstore_1 dX6_digest_77 (n := 78) rfl (by decide) (fun w h => by cases h; try rfl) ?_
                refine z_iinc_3 dX6_digest_78 (n := 81) rfl (by decide) (fun w h => by cases h; try rfl) ?_
                refine z_goto dX6_digest_81 (n := 66) (by decide) ?_
                rw [show (2 : Int) + 1 = 3 from rfl]
                refine z_iload_3 dX6_digest_66 (n := 67) rfl ?_
                refine z_iconst dX6_digest_67 (n := 68) rfl ?_
                refine z_icmp_ge dX6_digest_68 (n := 71) (tg := 84) rfl (by decide) (by first | assumption | exact ⟨by omega, by omega⟩ | exact zb_zr _) (by first | assumption | exact ⟨by omega, by omega⟩ | exact zb_zr _) (fun c68 => ?_) (fun c68 => ?_)
                · refine z_iconst dX6_digest_84 (n := 85) rfl ?_
                  refine z_istore_3 dX6_digest_85 (n := 86) rfl (by decide) (fun w h => by cases h; try rfl) ?_
                  exact lp_X6_digest hC (sz 1 1).toNat 0 sz4 ar4 y (by omega) hFd
                · exfalso; omega
      · exfalso; omega
    | succ m ih =>
      intro s sz' ar' y hs hF
      have e3 : sz' 3 = sz 3 := hF.1 3 (by omega)
      refine z_iload_3 dX6_digest_6 (n := 7) rfl ?_
      refine z_aload_0 dX6_digest_7 (n := 8) rfl ?_
      refine z_get dX6_digest_8 (n := 11) rfl rfl fd_X6_19 rfl ?_
      refine z_callV0i dX6_digest_11 (n := 14) rfl mv_X3_size lk_X6_98 rfl (zrm (by decide) (by decide)) (Nat.le_of_ble_eq_true rfl) (c_X3_size) (fun r u hp => ?_)
      obtain ⟨rfl, rfl⟩ := hp
      rw [e3]
      refine z_icmp_ge dX6_digest_14 (n := 17) (tg := 54) rfl (by decide) (by first | assumption | exact ⟨by omega, by omega⟩ | exact zb_zr _) (by first | assumption | exact ⟨by omega, by omega⟩ | exact zb_zr _) (fun c14 => ?_) (fun c14 => ?_)
      · exfalso; omega
      · refine z_iconst dX6_digest_17 (n := 18) rfl ?_
        refine z_istore_4 dX6_digest_18 (n := 20) rfl (by decide) (fun w h => by cases h; try rfl) ?_
        refine ls_X6_digest hC (by omega) ?_ 8 0 sz' ar' (by omega) hF
        intro sz2 ar2 hF2
        have h9 := ih (s + 1) sz2 ar2 (some (zI 8)) (by omega) hF2
        rw [show ((s + 1 : Nat) : Int) = (s : Int) + 1 by omega] at h9
        refine z_iinc_3 dX6_digest_48 (n := 51) rfl (by decide) (fun w h => by cases h; try rfl) ?_
        refine z_goto dX6_digest_51 (n := 6) (by decide) ?_
        exact h9
  refine z_ldc2 dX6_digest_0 (n := 3) rfl kn_X6_225 ?_
  refine z_lstore_1 dX6_digest_3 (n := 4) rfl (by decide) (fun w h => by cases h; try rfl) ?_
  refine z_iconst dX6_digest_4 (n := 5) rfl ?_
  refine z_istore_3 dX6_digest_5 (n := 6) rfl (by decide) (fun w h => by cases h; try rfl) ?_
  exact HO (sz 3 4).toNat 0 sz ar none (by omega) Fg.rf
