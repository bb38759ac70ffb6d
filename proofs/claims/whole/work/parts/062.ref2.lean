/-! the reference's state -/
def MK (ws : Int → List Int) (sz : zSz) (ar : zAr) : Prop :=
  MOK (sz 41 0) (ar 42) (ar 43) ∧ (0 ≤ sz 41 10 ∧ sz 41 10 ≤ 24 ∧ ∀ i, 0 ≤ ar 49 i ∧ ar 49 i ≤ 126) ∧
  (∀ w : Int, 0 ≤ w → w < 3 → LR (ar 44 w) (fun k => ar 45 (16 * w + k)) (ws w) ∧ Lt (sz 41 0) (ws w) ∧ (ws w).length ≤ 16) ∧
  (0 ≤ sz 41 6 ∧ sz 41 6 ≤ 6 ∧ (∀ i, zr (ar 46 i)) ∧ (∀ i, zr (ar 47 i)) ∧ ∀ i, ar 48 i = 0 ∨ ar 48 i = 1) ∧ zr (sz 41 3) ∧ zr (sz 41 19)
/-- only what is never seen has changed -/
def Mg (sz : zSz) (ar : zAr) (sz' : zSz) (ar' : zAr) : Prop := (∀ j, j ≠ 41 → sz' j = sz j) ∧ (∀ i, i ≠ 12 → i ≠ 14 → i ≠ 17 → sz' 41 i = sz 41 i) ∧ ∀ j, j < 50 ∨ 53 < j → ar' j = ar j
theorem Mg.rf {sz : zSz} {ar : zAr} : Mg sz ar sz ar := ⟨fun _ _ => rfl, fun _ _ _ _ => rfl, fun _ _ => rfl⟩
theorem Mg.tr {sz sz' sz'' : zSz} {ar ar' ar'' : zAr} (h : Mg sz ar sz' ar') (h2 : Mg sz' ar' sz'' ar'') : Mg sz ar sz'' ar'' := ⟨fun j a => (h2.1 j a).trans (h.1 j a), fun i a b c => (h2.2.1 i a b c).trans (h.2.1 i a b c), fun j a => (h2.2.2 j a).trans (h.2.2 j a)⟩
theorem Fm.g {sz sz' : zSz} {ar ar' : zAr} (h : Fm sz ar sz' ar') : Mg sz ar sz' ar' := ⟨h.1, fun i a _ _ => h.2.1 i a, fun j a => h.2.2 j (by omega)⟩
theorem MK.g {ws : Int → List Int} {sz sz' : zSz} {ar ar' : zAr} (h : MK ws sz ar) (hF : Mg sz ar sz' ar') : MK ws sz' ar' := by
  unfold MK
  rw [hF.2.1 0 (by decide) (by decide) (by decide), hF.2.1 10 (by decide) (by decide) (by decide), hF.2.1 6 (by decide) (by decide) (by decide), hF.2.1 3 (by decide) (by decide) (by decide), hF.2.1 19 (by decide) (by decide) (by decide), hF.2.2 42 (by omega), hF.2.2 43 (by omega), hF.2.2 44 (by omega), hF.2.2 45 (by omega), hF.2.2 46 (by omega), hF.2.2 47 (by omega), hF.2.2 48 (by omega), hF.2.2 49 (by omega)]
  exact h
/-! words are read -/
def wdP (n p : Int) (c : Int → Int) (k : Int) : Prop := p ≤ 8 ∧ ∀ i, 0 ≤ i → i < k → lcR n (c i) ≠ -1
theorem wdP_W {n p : Int} {c : Int → Int} (h0 : 0 ≤ n) (h6 : n ≤ 6) : wdP n p c p ↔ isWd n p c :=
  ⟨fun h => ⟨h.1, fun i a b => (lcR_lco h0 h6).1.mp (h.2 i a b)⟩, fun h => ⟨h.1, fun i a b => (lcR_lco h0 h6).1.mpr (h.2 i a b)⟩⟩
/-- behind it a word is kept; else only what is never seen has changed -/
def PWr (w : Int) (xs : List Int) (sz : zSz) (ar : zAr) (u : zS) : Prop := ∃ sz1 ar1 ar', Mg sz ar sz1 ar1 ∧ u = X sz1 ar' ∧ PK w xs ar1 ar'
set_option maxHeartbeats 4000000 in
theorem l2_X7_word {G : zG} {sz : zSz} {ar : zAr} {w y : Int} (hw0 : 0 ≤ w) (hw1 : w < 3) (hn0 : 0 ≤ sz 41 0) (hn6 : sz 41 0 ≤ 6) (hc : ∀ i, 0 ≤ ar 49 i ∧ ar 49 i ≤ 126) (hp0 : 0 ≤ sz 41 10) (hW : isWd (sz 41 0) (sz 41 10) (ar 49)) :
    ∀ (m k : Nat) (sz' : zSz) (ar' : zAr), (k : Int) + m = sz 41 10 → LR (sz' 41 12) (ar' 50) (rdW (ar 49) k) → Fm sz ar sz' ar' →
    zWP G mX7_word 2 (zpi fun r u => r = (rdW (ar 49) (sz 41 10).toNat).length ∧ PWr w (rdW (ar 49) (sz 41 10).toNat) (zz sz 41 10 0) ar u) 79 [some (zR 41), some (zI w), some (zI y), some (zI k)] [] (X sz' ar') := by
  have hp8 := hW.1
  intro m
  induction m with
  | zero =>
    intro k sz' ar' hk hL hF
    have ek : k = (sz 41 10).toNat := by omega
    subst ek
    have e10 : sz' 41 10 = sz 41 10 := hF.2.1 10 (by decide)
    have hln := rdW_len (ar 49) (sz 41 10).toNat
    have hFz : Mg (zz sz 41 10 0) ar (zz sz' 41 10 0) ar' := by
      refine ⟨fun j hj => by rw [zz_ne hj, zz_ne hj]; exact hF.1 j hj, fun i a _ _ => ?_, fun j a => hF.2.2 j (by omega)⟩
      by_cases e : i = 10
      · subst e; rw [zz_eq, zz_eq]
      · rw [zz_ni e, zz_ni e]; exact hF.2.1 i a
    refine z_iload_3 dX7_word_79 (n := 80) rfl ?_
    refine z_aload_0 dX7_word_80 (n := 81) rfl ?_
    refine z_get dX7_word_81 (n := 84) rfl rfl fd_X7_73 rfl ?_
    refine z_icmp_ge dX7_word_84 (n := 87) (tg := 107) rfl (by decide) (by first | assumption | exact ⟨by omega, by omega⟩ | exact zb_zr _) (by first | assumption | exact ⟨by omega, by omega⟩ | exact zb_zr _) (fun c84 => ?_) (fun c84 => ?_)
    · refine z_aload_0 dX7_word_107 (n := 108) rfl ?_
      refine z_iconst dX7_word_108 (n := 109) rfl ?_
      refine z_putX dX7_word_109 (n := 112) rfl rfl fw_X7_73 (by first | decide | simp) rfl ?_
      refine z_aload_0 dX7_word_112 (n := 113) rfl ?_
      refine z_iload_1 dX7_word_113 (n := 114) rfl ?_
      refine z_callV1i dX7_word_114 (n := 117) rfl mv_X7_keepMade lk_X7_121 rfl (zrm (by decide) (by decide)) (Nat.le_of_ble_eq_true rfl) (c_X7_keepMade hw0 hw1 (xs := rdW (ar 49) (sz 41 10).toNat) (by rw [zz_ni (by decide)]; exact hL) (by omega)) (fun r u hp => ?_)
      obtain ⟨rfl, ar2, rfl, hK⟩ := hp
      refine z_ret_i dX7_word_117 rfl ?_
      exact ⟨rfl, _, _, _, hFz, rfl, hK⟩
    · exfalso; omega
  | succ m ih =>
    intro k sz' ar' hk hL hF
    have e10 : sz' 41 10 = sz 41 10 := hF.2.1 10 (by decide)
    have e0 : sz' 41 0 = sz 41 0 := hF.2.1 0 (by decide)
    have e49 : ar' 49 = ar 49 := hF.2.2 49 (by decide)
    have hck := hc k
    have hln := rdW_len (ar 49) k
    have hlt := (rdW_Lt hW k (by omega)).Ls hn6
    have hlw := hW.2 k (by omega) (by omega)
    have hle := lcR_lco (n := sz 41 0) (c := ar 49 k) hn0 hn6
    have hlq : lcR (sz 41 0) (ar 49 k) = lco (ar 49 k) := hle.2 (hle.1.mpr hlw)
    refine z_iload_3 dX7_word_79 (n := 80) rfl ?_
    refine z_aload_0 dX7_word_80 (n := 81) rfl ?_
    refine z_get dX7_word_81 (n := 84) rfl rfl fd_X7_73 rfl ?_
    refine z_icmp_ge dX7_word_84 (n := 87) (tg := 107) rfl (by decide) (by first | assumption | exact ⟨by omega, by omega⟩ | exact zb_zr _) (by first | assumption | exact ⟨by omega, by omega⟩ | exact zb_zr _) (fun c84 => ?_) (fun c84 => ?_)
    · exfalso; omega
    · refine z_aload_0 dX7_word_87 (n := 88) rfl ?_
      refine z_aload_0 dX7_word_88 (n := 89) rfl ?_
      refine z_aload_0 dX7_word_89 (n := 90) rfl ?_
      refine z_get dX7_word_90 (n := 93) rfl rfl fd_X7_32 rfl ?_
      refine z_iload_3 dX7_word_93 (n := 94) rfl ?_
      refine z_iald dX7_word_94 (n := 95) rfl rfl (by omega) (by omega) (by decide) ?_
      rw [e49]
      refine z_callV1i dX7_word_95 (n := 98) rfl mv_X7_letterOf lk_X7_115 rfl (zrm (by decide) (by decide)) (Nat.le_of_ble_eq_true rfl) (c_X7_letterOf hck (by omega) (by omega)) (fun r u hp => ?_)
      obtain ⟨rfl, rfl⟩ := hp
      rw [e0, hlq]
      refine z_callV1v dX7_word_98 (n := 101) rfl mv_X7_comes lk_X7_108 rfl (zrm (by decide) (by decide)) (Nat.le_of_ble_eq_true rfl) (c_X7_comes (by omega) (by omega) hL hlt (by omega)) (fun u hp => ?_)
      obtain ⟨sz2, ar2, rfl, hL2, hF2⟩ := hp
      refine z_iinc_3 dX7_word_101 (n := 104) rfl (by decide) (fun w h => by cases h; try rfl) ?_
      refine z_goto dX7_word_104 (n := 79) (by decide) ?_
      have h9 := ih (k + 1) sz2 ar2 (by omega) hL2 (hF.tr hF2)
      rw [show ((k + 1 : Nat) : Int) = (k : Int) + 1 by omega] at h9
      exact h9
set_option maxHeartbeats 4000000 in
theorem l1_X7_word {G : zG} {sz : zSz} {ar : zAr} {w : Int} (hw0 : 0 ≤ w) (hw1 : w < 3) (hn0 : 0 < sz 41 0) (hn6 : sz 41 0 ≤ 6) (hc : ∀ i, 0 ≤ ar 49 i ∧ ar 49 i ≤ 126) (hp0 : 0 ≤ sz 41 10) (hp1 : sz 41 10 ≤ 24) :
    ∀ (m : Nat) (k : Int), 0 ≤ k → k + m = sz 41 10 →
    zWP G mX7_word 2 (zpi fun r u => (¬ isWd (sz 41 0) (sz 41 10) (ar 49) ∧ r = -103 ∧ u = X sz ar) ∨ (isWd (sz 41 0) (sz 41 10) (ar 49) ∧ r = (rdW (ar 49) (sz 41 10).toNat).length ∧ PWr w (rdW (ar 49) (sz 41 10).toNat) (zz sz 41 10 0) ar u)) 28 [some (zR 41), some (zI w), some (zI (zb (wdP (sz 41 0) (sz 41 10) (ar 49) k))), some (zI k)] [] (X sz ar) := by
  intro m
  induction m with
  | zero =>
    intro k hk0 hk
    have ek : k = sz 41 10 := by omega
    subst ek
    have hiff := wdP_W (n := sz 41 0) (p := sz 41 10) (c := ar 49) (by omega) hn6
    refine z_iload_3 dX7_word_28 (n := 29) rfl ?_
    refine z_aload_0 dX7_word_29 (n := 30) rfl ?_
    refine z_get dX7_word_30 (n := 33) rfl rfl fd_X7_73 rfl ?_
    refine z_icmp_ge dX7_word_33 (n := 36) (tg := 66) rfl (by decide) (by first | assumption | exact ⟨by omega, by omega⟩ | exact zb_zr _) (by first | assumption | exact ⟨by omega, by omega⟩ | exact zb_zr _) (fun c33 => ?_) (fun c33 => ?_)
    · refine z_iload_2 dX7_word_66 (n := 67) rfl ?_
      refine z_ifB_ne dX7_word_67 (n := 70) (tg := 73) rfl (by decide) (fun c67 => ?_) (fun c67 => ?_)
      · refine z_aload_0 dX7_word_73 (n := 74) rfl ?_
        refine z_callV0v dX7_word_74 (n := 77) rfl mv_X7_begin lk_X7_118 rfl (zrm (by decide) (by decide)) (Nat.le_of_ble_eq_true rfl) (c_X7_begin) (fun u hp => ?_)
        obtain ⟨sz1, ar1, rfl, hL74, hF74⟩ := hp
        refine z_iconst dX7_word_77 (n := 78) rfl ?_
        refine z_istore_3 dX7_word_78 (n := 79) rfl (by decide) (fun w h => by cases h; try rfl) ?_
        have hW := hiff.mp c67
        refine z_wk (l2_X7_word hw0 hw1 (by omega) hn6 hc hp0 hW (sz 41 10).toNat 0 _ _ (by omega) hL74 hF74) (fun x v h => Or.inr ⟨hW, h⟩)
      · refine z_bipush dX7_word_70 (n := 72) rfl (by decide) ?_
        refine z_ret_i dX7_word_72 rfl ?_
        exact Or.inl ⟨fun z => c67 (hiff.mpr z), rfl, rfl⟩
    · exfalso; omega
  | succ m ih =>
    intro k hk0 hk
    have hck := hc k
    have hlr := lcR_r (n := sz 41 0) (c := ar 49 k) (by omega) hn6
    have h9 := ih (k + 1) (by omega) (by omega)
    refine z_iload_3 dX7_word_28 (n := 29) rfl ?_
    refine z_aload_0 dX7_word_29 (n := 30) rfl ?_
    refine z_get dX7_word_30 (n := 33) rfl rfl fd_X7_73 rfl ?_
    refine z_icmp_ge dX7_word_33 (n := 36) (tg := 66) rfl (by decide) (by first | assumption | exact ⟨by omega, by omega⟩ | exact zb_zr _) (by first | assumption | exact ⟨by omega, by omega⟩ | exact zb_zr _) (fun c33 => ?_) (fun c33 => ?_)
    · exfalso; omega
    · refine z_iload_2 dX7_word_36 (n := 37) rfl ?_
      refine z_ifB_eq dX7_word_37 (n := 40) (tg := 58) rfl (by decide) (fun c37 => ?_) (fun c37 => ?_)
      · rw [zb_f (p := wdP (sz 41 0) (sz 41 10) (ar 49) (k + 1)) (fun z => c37 ⟨z.1, fun i a b => z.2 i a (by omega)⟩)] at h9
        refine z_iconst dX7_word_58 (n := 59) rfl ?_
        refine z_istore_2 dX7_word_59 (n := 60) rfl (by decide) (fun w h => by cases h; try rfl) ?_
        refine z_iinc_3 dX7_word_60 (n := 63) rfl (by decide) (fun w h => by cases h; try rfl) ?_
        refine z_goto dX7_word_63 (n := 28) (by decide) ?_
        exact h9
      · refine z_aload_0 dX7_word_40 (n := 41) rfl ?_
        refine z_aload_0 dX7_word_41 (n := 42) rfl ?_
        refine z_get dX7_word_42 (n := 45) rfl rfl fd_X7_32 rfl ?_
        refine z_iload_3 dX7_word_45 (n := 46) rfl ?_
        refine z_iald dX7_word_46 (n := 47) rfl rfl (by omega) (by omega) (by decide) ?_
        refine z_callV1i dX7_word_47 (n := 50) rfl mv_X7_letterOf lk_X7_115 rfl (zrm (by decide) (by decide)) (Nat.le_of_ble_eq_true rfl) (c_X7_letterOf hck (by omega) (by omega)) (fun r u hp => ?_)
        obtain ⟨rfl, rfl⟩ := hp
        refine z_iconst dX7_word_50 (n := 51) rfl ?_
        refine z_icmp_eq dX7_word_51 (n := 54) (tg := 58) rfl (by decide) (by first | assumption | exact ⟨by omega, by omega⟩ | exact zb_zr _) (by first | assumption | exact ⟨by omega, by omega⟩ | exact zb_zr _) (fun c51 => ?_) (fun c51 => ?_)
        · rw [zb_f (p := wdP (sz 41 0) (sz 41 10) (ar 49) (k + 1)) (fun z => z.2 k hk0 (by omega) c51)] at h9
          refine z_iconst dX7_word_58 (n := 59) rfl ?_
          refine z_istore_2 dX7_word_59 (n := 60) rfl (by decide) (fun w h => by cases h; try rfl) ?_
          refine z_iinc_3 dX7_word_60 (n := 63) rfl (by decide) (fun w h => by cases h; try rfl) ?_
          refine z_goto dX7_word_63 (n := 28) (by decide) ?_
          exact h9
        · rw [zb_t (p := wdP (sz 41 0) (sz 41 10) (ar 49) (k + 1)) ⟨c37.1, fun i a b => by by_cases e : i = k; (rw [e]; exact c51); exact c37.2 i a (by omega)⟩] at h9
          refine z_iconst dX7_word_54 (n := 55) rfl ?_
          refine z_goto dX7_word_55 (n := 59) (by decide) ?_
          refine z_istore_2 dX7_word_59 (n := 60) rfl (by decide) (fun w h => by cases h; try rfl) ?_
          refine z_iinc_3 dX7_word_60 (n := 63) rfl (by decide) (fun w h => by cases h; try rfl) ?_
          refine z_goto dX7_word_63 (n := 28) (by decide) ?_
          exact h9
set_option maxHeartbeats 4000000 in
theorem c_X7_word {G : zG} {sz : zSz} {ar : zAr} {ws : Int → List Int} {w : Int} (hw : zr w) (hC : MK ws sz ar)  : zSem G mX7_word 2 [zR 41, zI w] (X sz ar) (zpi fun r u => (¬ (0 ≤ w ∧ w < 3 ∧ 0 < sz 41 0) ∧ r = -101 ∧ u = X sz ar) ∨ ((0 ≤ w ∧ w < 3 ∧ 0 < sz 41 0) ∧ ¬ isWd (sz 41 0) (sz 41 10) (ar 49) ∧ r = -103 ∧ u = X sz ar) ∨ ((0 ≤ w ∧ w < 3 ∧ 0 < sz 41 0) ∧ isWd (sz 41 0) (sz 41 10) (ar 49) ∧ r = (rdW (ar 49) (sz 41 10).toNat).length ∧ PWr w (rdW (ar 49) (sz 41 10).toNat) (zz sz 41 10 0) ar u)) := by
  refine z_enter (L' := [some (zR 41), some (zI w), none, none]) (by decide +kernel) (Nat.le_of_ble_eq_true rfl) ⟨2, rfl⟩ ?_
  obtain ⟨hM, ⟨hp0, hp1, hc⟩, hW, ⟨hs0, hs1, hof, hwh, hco⟩, hmr, hkm⟩ := hC
  have hn := hM.1
  have hn6 := hM.2.1
  have h8 : ∀ (h : 0 ≤ w ∧ w < 3 ∧ 0 < sz 41 0), _ := fun h => l1_X7_word (G := G) (w := w) h.1 h.2.1 h.2.2 hn6 hc hp0 hp1 (sz 41 10).toNat 0 (by omega) (by omega)
  refine z_aload_0 dX7_word_0 (n := 1) rfl ?_
  refine z_iload_1 dX7_word_1 (n := 2) rfl ?_
  refine z_callV1i dX7_word_2 (n := 5) rfl mv_X7_isWord lk_X7_112 rfl (zrm (by decide) (by decide)) (Nat.le_of_ble_eq_true rfl) (c_X7_isWord (by first | assumption | exact ⟨by omega, by omega⟩ | exact zb_zr _) (by first | assumption | exact ⟨by omega, by omega⟩ | exact zb_zr _)) (fun r u hp => ?_)
  obtain ⟨rfl, rfl⟩ := hp
  refine z_ifB_ne dX7_word_5 (n := 8) (tg := 11) rfl (by decide) (fun c5 => ?_) (fun c5 => ?_)
  · refine z_aload_0 dX7_word_11 (n := 12) rfl ?_
    refine z_get dX7_word_12 (n := 15) rfl rfl fd_X7_73 rfl ?_
    refine z_bipush dX7_word_15 (n := 17) rfl (by decide) ?_
    refine z_icmp_gt dX7_word_17 (n := 20) (tg := 24) rfl (by decide) (by first | assumption | exact ⟨by omega, by omega⟩ | exact zb_zr _) (by first | assumption | exact ⟨by omega, by omega⟩ | exact zb_zr _) (fun c17 => ?_) (fun c17 => ?_)
    · replace h8 := h8 c5
      rw [zb_f (p := wdP (sz 41 0) (sz 41 10) (ar 49) 0) (fun z => by have := z.1; omega)] at h8
      refine z_iconst dX7_word_24 (n := 25) rfl ?_
      refine z_istore_2 dX7_word_25 (n := 26) rfl (by decide) (fun w h => by cases h; try rfl) ?_
      refine z_iconst dX7_word_26 (n := 27) rfl ?_
      refine z_istore_3 dX7_word_27 (n := 28) rfl (by decide) (fun w h => by cases h; try rfl) ?_
      refine z_wk h8 (fun x v h => ?_)
      rcases h with h | h
      · exact Or.inr (Or.inl ⟨c5, h⟩)
      · exact Or.inr (Or.inr ⟨c5, h⟩)
    · replace h8 := h8 c5
      rw [zb_t (p := wdP (sz 41 0) (sz 41 10) (ar 49) 0) ⟨by omega, fun i a b => by omega⟩] at h8
      refine z_iconst dX7_word_20 (n := 21) rfl ?_
      refine z_goto dX7_word_21 (n := 25) (by decide) ?_
      refine z_istore_2 dX7_word_25 (n := 26) rfl (by decide) (fun w h => by cases h; try rfl) ?_
      refine z_iconst dX7_word_26 (n := 27) rfl ?_
      refine z_istore_3 dX7_word_27 (n := 28) rfl (by decide) (fun w h => by cases h; try rfl) ?_
      refine z_wk h8 (fun x v h => ?_)
      rcases h with h | h
      · exact Or.inr (Or.inl ⟨c5, h⟩)
      · exact Or.inr (Or.inr ⟨c5, h⟩)
  · refine z_bipush dX7_word_8 (n := 10) rfl (by decide) ?_
    refine z_ret_i dX7_word_10 rfl ?_
    exact Or.inl ⟨c5, rfl, rfl⟩
/-! what states do -/
set_option maxHeartbeats 4000000 in
theorem c_X7_flipOf {G : zG} {sz : zSz} {ar : zAr} {s : Int} (h0 : 0 ≤ s) (h1 : s < sz 41 0) (hM : MOK (sz 41 0) (ar 42) (ar 43))  : zSem G mX7_flipOf 0 [zR 41, zI s] (X sz ar) (zpi fun r u => r = zb (fl (ar 42) s) ∧ u = X sz ar) := by
  refine z_enter (L' := [some (zR 41), some (zI s)]) (by decide +kernel) (Nat.le_of_ble_eq_true rfl) ⟨0, rfl⟩ ?_
  have hn6 := hM.2.1
  have hk := hM.2.2.1 s h0 h1
  refine z_aload_0 dX7_flipOf_0 (n := 1) rfl ?_
  refine z_get dX7_flipOf_1 (n := 4) rfl rfl fd_X7_7 rfl ?_
  refine z_iload_1 dX7_flipOf_4 (n := 5) rfl ?_
  refine z_iald dX7_flipOf_5 (n := 6) rfl rfl (by omega) (by omega) (by decide) ?_
  refine z_iconst dX7_flipOf_6 (n := 7) rfl ?_
  refine z_icmp_eq dX7_flipOf_7 (n := 10) (tg := 30) rfl (by decide) (by first | assumption | exact ⟨by omega, by omega⟩ | exact zb_zr _) (by first | assumption | exact ⟨by omega, by omega⟩ | exact zb_zr _) (fun c7 => ?_) (fun c7 => ?_)
  · refine z_iconst dX7_flipOf_30 (n := 31) rfl ?_
    refine z_goto dX7_flipOf_31 (n := 35) (by decide) ?_
    refine z_ret_i dX7_flipOf_35 rfl ?_
    first | exact ⟨(zb_t (by unfold fl; omega)).symm, rfl⟩ | exact ⟨(zb_f (by unfold fl; omega)).symm, rfl⟩
  · refine z_aload_0 dX7_flipOf_10 (n := 11) rfl ?_
    refine z_get dX7_flipOf_11 (n := 14) rfl rfl fd_X7_7 rfl ?_
    refine z_iload_1 dX7_flipOf_14 (n := 15) rfl ?_
    refine z_iald dX7_flipOf_15 (n := 16) rfl rfl (by omega) (by omega) (by decide) ?_
    refine z_iconst dX7_flipOf_16 (n := 17) rfl ?_
    refine z_icmp_eq dX7_flipOf_17 (n := 20) (tg := 30) rfl (by decide) (by first | assumption | exact ⟨by omega, by omega⟩ | exact zb_zr _) (by first | assumption | exact ⟨by omega, by omega⟩ | exact zb_zr _) (fun c17 => ?_) (fun c17 => ?_)
    · refine z_iconst dX7_flipOf_30 (n := 31) rfl ?_
      refine z_goto dX7_flipOf_31 (n := 35) (by decide) ?_
      refine z_ret_i dX7_flipOf_35 rfl ?_
      first | exact ⟨(zb_t (by unfold fl; omega)).symm, rfl⟩ | exact ⟨(zb_f (by unfold fl; omega)).symm, rfl⟩
    · refine z_aload_0 dX7_flipOf_20 (n := 21) rfl ?_
      refine z_get dX7_flipOf_21 (n := 24) rfl rfl fd_X7_7 rfl ?_
      refine z_iload_1 dX7_flipOf_24 (n := 25) rfl ?_
      refine z_iald dX7_flipOf_25 (n := 26) rfl rfl (by omega) (by omega) (by decide) ?_
      refine z_iconst dX7_flipOf_26 (n := 27) rfl ?_
      refine z_icmp_ne dX7_flipOf_27 (n := 30) (tg := 34) rfl (by decide) (by first | assumption | exact ⟨by omega, by omega⟩ | exact zb_zr _) (by first | assumption | exact ⟨by omega, by omega⟩ | exact zb_zr _) (fun c27 => ?_) (fun c27 => ?_)
      · refine z_iconst dX7_flipOf_34 (n := 35) rfl ?_
        refine z_ret_i dX7_flipOf_35 rfl ?_
        first | exact ⟨(zb_t (by unfold fl; omega)).symm, rfl⟩ | exact ⟨(zb_f (by unfold fl; omega)).symm, rfl⟩
      · refine z_iconst dX7_flipOf_30 (n := 31) rfl ?_
        refine z_goto dX7_flipOf_31 (n := 35) (by decide) ?_
        refine z_ret_i dX7_flipOf_35 rfl ?_
        first | exact ⟨(zb_t (by unfold fl; omega)).symm, rfl⟩ | exact ⟨(zb_f (by unfold fl; omega)).symm, rfl⟩
set_option maxHeartbeats 4000000 in
theorem c_X7_goesOn {G : zG} {sz : zSz} {ar : zAr} {s w : Int} (h0 : 0 ≤ s) (h1 : s < sz 41 0) (hw0 : 0 ≤ w) (hw1 : w ≤ 1) (hM : MOK (sz 41 0) (ar 42) (ar 43))  : zSem G mX7_goesOn 0 [zR 41, zI s, zI w] (X sz ar) (zpi fun r u => r = gon (ar 42) (ar 43) s w ∧ u = X sz ar) := by
  refine z_enter (L' := [some (zR 41), some (zI s), some (zI w)]) (by decide +kernel) (Nat.le_of_ble_eq_true rfl) ⟨0, rfl⟩ ?_
  have hn6 := hM.2.1
  have hk := hM.2.2.1 s h0 h1
  refine z_aload_0 dX7_goesOn_0 (n := 1) rfl ?_
  refine z_get dX7_goesOn_1 (n := 4) rfl rfl fd_X7_7 rfl ?_
  refine z_iload_1 dX7_goesOn_4 (n := 5) rfl ?_
  refine z_iald dX7_goesOn_5 (n := 6) rfl rfl (by omega) (by omega) (by decide) ?_
  refine z_by (0) (fun q6 => ?_) (fun q6_0 => ?_)
  · refine z_tsIn (off := 26) (tg := 32) dX7_goesOn_6 (by first | assumption | exact ⟨by omega, by omega⟩ | exact zb_zr _) (by omega) (by omega) (by rw [q6]; rfl) (by decide) ?_
    refine z_aload_0 dX7_goesOn_32 (n := 33) rfl ?_
    refine z_get dX7_goesOn_33 (n := 36) rfl rfl fd_X7_13 rfl ?_
    refine z_iconst dX7_goesOn_36 (n := 37) rfl ?_
    refine z_iload_1 dX7_goesOn_37 (n := 38) rfl ?_
    refine z_imul dX7_goesOn_38 (n := 39) rfl ?_
    refine z_iload_2 dX7_goesOn_39 (n := 40) rfl ?_
    refine z_iadd dX7_goesOn_40 (n := 41) rfl ?_
    refine z_iald dX7_goesOn_41 (n := 42) rfl rfl (by omega) (by omega) (by decide) ?_
    refine z_ret_i dX7_goesOn_42 rfl ?_
    exact ⟨by unfold gon; rw [if_pos (by omega)], rfl⟩
  · skip
    refine z_by (1) (fun q6 => ?_) (fun q6_1 => ?_)
    · refine z_tsIn (off := 26) (tg := 32) dX7_goesOn_6 (by first | assumption | exact ⟨by omega, by omega⟩ | exact zb_zr _) (by omega) (by omega) (by rw [q6]; rfl) (by decide) ?_
      refine z_aload_0 dX7_goesOn_32 (n := 33) rfl ?_
      refine z_get dX7_goesOn_33 (n := 36) rfl rfl fd_X7_13 rfl ?_
      refine z_iconst dX7_goesOn_36 (n := 37) rfl ?_
      refine z_iload_1 dX7_goesOn_37 (n := 38) rfl ?_
      refine z_imul dX7_goesOn_38 (n := 39) rfl ?_
      refine z_iload_2 dX7_goesOn_39 (n := 40) rfl ?_
      refine z_iadd dX7_goesOn_40 (n := 41) rfl ?_
      refine z_iald dX7_goesOn_41 (n := 42) rfl rfl (by omega) (by omega) (by decide) ?_
      refine z_ret_i dX7_goesOn_42 rfl ?_
      exact ⟨by unfold gon; rw [if_pos (by omega)], rfl⟩
    · skip
      refine z_by (2) (fun q6 => ?_) (fun q6_2 => ?_)
      · refine z_tsIn (off := 37) (tg := 43) dX7_goesOn_6 (by first | assumption | exact ⟨by omega, by omega⟩ | exact zb_zr _) (by omega) (by omega) (by rw [q6]; rfl) (by decide) ?_
        refine z_aload_0 dX7_goesOn_43 (n := 44) rfl ?_
        refine z_get dX7_goesOn_44 (n := 47) rfl rfl fd_X7_13 rfl ?_
        refine z_iconst dX7_goesOn_47 (n := 48) rfl ?_
        refine z_iload_1 dX7_goesOn_48 (n := 49) rfl ?_
        refine z_imul dX7_goesOn_49 (n := 50) rfl ?_
        refine z_iconst dX7_goesOn_50 (n := 51) rfl ?_
        refine z_iadd dX7_goesOn_51 (n := 52) rfl ?_
        refine z_iload_2 dX7_goesOn_52 (n := 53) rfl ?_
        refine z_isub dX7_goesOn_53 (n := 54) rfl ?_
        refine z_iald dX7_goesOn_54 (n := 55) rfl rfl (by omega) (by omega) (by decide) ?_
        refine z_ret_i dX7_goesOn_55 rfl ?_
        exact ⟨by unfold gon; rw [if_neg (by omega), if_pos (by omega), show 2 * s + 1 - w = 2 * s + (1 - w) by omega], rfl⟩
      · skip
        refine z_tsOut (tg := 56) dX7_goesOn_6 (by first | assumption | exact ⟨by omega, by omega⟩ | exact zb_zr _) (by omega) (by decide) ?_
        refine z_iconst dX7_goesOn_56 (n := 57) rfl ?_
        refine z_ret_i dX7_goesOn_57 rfl ?_
        exact ⟨by unfold gon; rw [if_neg (by omega), if_neg (by omega)], rfl⟩
theorem lo_x {kd : Int → Int} {l b : Int} (h0 : 0 ≤ l) (hb0 : 0 ≤ b) (hb1 : b ≤ 1) : zxor b (l % 2 * zb (fl kd (l / 2))) = if l % 2 = 1 ∧ fl kd (l / 2) then 1 - b else b := by
  by_cases h : l % 2 = 1 ∧ fl kd (l / 2)
  · rw [if_pos h, zb_t h.2, h.1]
    have : b = 0 ∨ b = 1 := by omega
    rcases this with rfl | rfl <;> rfl
  · rw [if_neg h]
    have e : l % 2 * zb (fl kd (l / 2)) = 0 := by
      by_cases h2 : fl kd (l / 2)
      · have : l % 2 = 0 := by
          by_cases h3 : l % 2 = 1
          · exact absurd ⟨h3, h2⟩ h
          · omega
        rw [this, Int.zero_mul]
      · rw [zb_f h2, Int.mul_zero]
    rw [e]
    exact zxor_zero hb0
set_option maxHeartbeats 4000000 in
theorem c_X7_letterOn {G : zG} {sz : zSz} {ar : zAr} {l b : Int} (h0 : 0 ≤ l) (h1 : l < 2 * sz 41 0) (hb0 : 0 ≤ b) (hb1 : b ≤ 1) (hM : MOK (sz 41 0) (ar 42) (ar 43))  : zSem G mX7_letterOn 1 [zR 41, zI l, zI b] (X sz ar) (zpi fun r u => r = lb (ar 42) (ar 43) l b ∧ u = X sz ar) := by
  refine z_enter (L' := [some (zR 41), some (zI l), some (zI b), none, none, none]) (by decide +kernel) (Nat.le_of_ble_eq_true rfl) ⟨3, rfl⟩ ?_
  have hn6 := hM.2.1
  have hxx := lo_x (kd := ar 42) h0 hb0 hb1
  have hlw := lb_w (kd := ar 42) (nx := ar 43) (l := l) (b := b) rfl
  have hw : 0 ≤ (if l % 2 = 1 ∧ fl (ar 42) (l / 2) then 1 - b else b) ∧ (if l % 2 = 1 ∧ fl (ar 42) (l / 2) then 1 - b else b) ≤ 1 := by split <;> omega
  generalize (if l % 2 = 1 ∧ fl (ar 42) (l / 2) then 1 - b else b) = w at hxx hlw hw
  have hg := hM.go (s := l / 2) (w := w) (by omega) (by omega) hw.1 hw.2
  have hmn : 0 ≤ l % 2 * zb (fl (ar 42) (l / 2)) := Int.mul_nonneg (by omega) (zb_r _).1
  refine z_iload_1 dX7_letterOn_0 (n := 1) rfl ?_
  refine z_iconst dX7_letterOn_1 (n := 2) rfl ?_
  refine z_idiv dX7_letterOn_2 (n := 3) rfl (by omega) (by omega) (by omega) (by omega) ?_
  refine z_istore_3 dX7_letterOn_3 (n := 4) rfl (by decide) (fun w h => by cases h; try rfl) ?_
  refine z_iload_1 dX7_letterOn_4 (n := 5) rfl ?_
  refine z_iconst dX7_letterOn_5 (n := 6) rfl ?_
  refine z_irem dX7_letterOn_6 (n := 7) rfl (by omega) (by omega) (by omega) (by omega) ?_
  refine z_istore_4 dX7_letterOn_7 (n := 9) rfl (by decide) (fun w h => by cases h; try rfl) ?_
  refine z_aload_0 dX7_letterOn_9 (n := 10) rfl ?_
  refine z_iload_3 dX7_letterOn_10 (n := 11) rfl ?_
  refine z_iload_2 dX7_letterOn_11 (n := 12) rfl ?_
  refine z_iload_4 dX7_letterOn_12 (n := 14) rfl ?_
  refine z_aload_0 dX7_letterOn_14 (n := 15) rfl ?_
  refine z_iload_3 dX7_letterOn_15 (n := 16) rfl ?_
  refine z_callV1i dX7_letterOn_16 (n := 19) rfl mv_X7_flipOf lk_X7_124 rfl (zrm (by decide) (by decide)) (Nat.le_of_ble_eq_true rfl) (c_X7_flipOf (by omega) (by omega) hM) (fun r u hp => ?_)
  obtain ⟨rfl, rfl⟩ := hp
  refine z_imul dX7_letterOn_19 (n := 20) rfl ?_
  refine z_ixor dX7_letterOn_20 (n := 21) rfl hb0 hmn ?_
  rw [hxx]
  refine z_callV2i dX7_letterOn_21 (n := 24) rfl mv_X7_goesOn lk_X7_127 rfl (zrm (by decide) (by decide)) (Nat.le_of_ble_eq_true rfl) (c_X7_goesOn (by omega) (by omega) (by omega) (by omega) hM) (fun r u hp => ?_)
  obtain ⟨rfl, rfl⟩ := hp
  refine z_istore_5 dX7_letterOn_24 (n := 26) rfl (by decide) (fun w h => by cases h; try rfl) ?_
  refine z_iload_5 dX7_letterOn_26 (n := 28) rfl ?_
  refine z_iconst dX7_letterOn_28 (n := 29) rfl ?_
  refine z_icmp_ne dX7_letterOn_29 (n := 32) (tg := 36) rfl (by decide) (by first | assumption | exact ⟨by omega, by omega⟩ | exact zb_zr _) (by first | assumption | exact ⟨by omega, by omega⟩ | exact zb_zr _) (fun c29 => ?_) (fun c29 => ?_)
  · rw [hlw, if_neg c29]
    refine z_iconst dX7_letterOn_36 (n := 37) rfl ?_
    refine z_iload_5 dX7_letterOn_37 (n := 39) rfl ?_
    refine z_imul dX7_letterOn_39 (n := 40) rfl ?_
    refine z_iload_4 dX7_letterOn_40 (n := 42) rfl ?_
    refine z_iadd dX7_letterOn_42 (n := 43) rfl ?_
    refine z_ret_i dX7_letterOn_43 rfl ?_
    exact ⟨rfl, rfl⟩
  · rw [hlw, if_pos c29]
    refine z_iconst dX7_letterOn_32 (n := 33) rfl ?_
    refine z_goto dX7_letterOn_33 (n := 43) (by decide) ?_
    refine z_ret_i dX7_letterOn_43 rfl ?_
    exact ⟨rfl, rfl⟩
theorem xfl {kd : Int → Int} {s hi x : Int} {k : Nat} (h0 : 0 ≤ x) (h1 : x < 2 ^ (k + 1)) (hh : 0 ≤ hi) : zxor (hi * 2 ^ (k + 1) + x) (zb (fl kd s) * 2 ^ k) = (hi * 2 + fb kd s (x / 2 ^ k)) * 2 ^ k + x % 2 ^ k := by
  have hn : 0 ≤ hi * 2 ^ (k + 1) + x := Int.add_nonneg (Int.mul_nonneg hh (Int.le_of_lt (p2_pos _))) h0
  by_cases h : fl kd s
  · rw [zb_t h, Int.one_mul, sg_flip h0 h1 hh, show fb kd s (x / 2 ^ k) = 1 - x / 2 ^ k from if_pos h]
  · rw [zb_f h, Int.zero_mul, zxor_zero hn, show fb kd s (x / 2 ^ k) = x / 2 ^ k from if_neg h]
    exact sg_stay
set_option maxHeartbeats 4000000 in
theorem lo_X7_actLetter {G : zG} {sz : zSz} {ar : zAr} {l0 n0 : Int} (hM : MOK (sz 41 0) (ar 42) (ar 43)) :
    ∀ (k : Nat) (hr hi x l row : Int) (y : Option zV), row = hr * 2 ^ k + x → k ≤ 12 → 0 ≤ hr → 0 ≤ hi → (hr + 1) * 2 ^ k ≤ 4096 → (hi + 1) * 2 ^ k ≤ 4096 → 0 ≤ x → x < 2 ^ k → -1 ≤ l → l < 2 * sz 41 0 →
    zWP G mX7_actLetter 2 (zpi fun r u => r = hi * 2 ^ k + rl (ar 42) (ar 43) k l x ∧ u = X sz ar) 11 [some (zR 41), some (zI l0), some (zI row), some (zI n0), some (zI l), some (zI (hi * 2 ^ k + x)), some (zI (k - 1)), y] [] (X sz ar) := by
  have hn := hM.1
  have hn6 := hM.2.1
  intro k
  induction k with
  | zero =>
    intro hr hi x l row y hrow hk g0 h0 g1 h1 hx0 hx1 hl0 hl1
    refine z_iload_6 dX7_actLetter_11 (n := 13) rfl ?_
    refine z_if_lt dX7_actLetter_13 (n := 16) (tg := 62) rfl (by decide) (by first | assumption | exact ⟨by omega, by omega⟩ | exact zb_zr _) (fun c13 => ?_) (fun c13 => ?_)
    · refine z_iload_5 dX7_actLetter_62 (n := 64) rfl ?_
      refine z_ret_i dX7_actLetter_64 rfl ?_
      exact ⟨rfl, rfl⟩
    · exfalso; omega
  | succ k ih =>
    intro hr hi x l row y hrow hk g0 h0 g1 h1 hx0 hx1 hl0 hl1
    have hp := p2_pos k
    have hp1 := p2_pos (k + 1)
    have hs := sg_bit (hi := hr) hx0 hx1 g0
    have hrs := sg_stay (hi := hr) (x := x) (k := k)
    have hfl := xfl (kd := ar 42) (s := l / 2) (hi := hi) hx0 hx1 h0
    have hb := half_r hx0 hx1
    have hmm := Int.emod_lt_of_pos x hp
    have hmn := Int.emod_nonneg x (show (2 : Int) ^ k ≠ 0 by omega)
    have hnn : 0 ≤ hi * 2 ^ (k + 1) := Int.mul_nonneg h0 (by omega)
    have hnr : 0 ≤ hr * 2 ^ (k + 1) := Int.mul_nonneg g0 (by omega)
    have hup := hi_lt h1 hx1
    have hur := hi_lt g1 hx1
    have hN0 : 0 ≤ hi * 2 ^ (k + 1) + x := by omega
    have hR0 : 0 ≤ row := by omega
    have hzr : zr row := ⟨by omega, by omega⟩
    have hdn : 0 ≤ row / 2 ^ k := Int.ediv_nonneg hR0 (by omega)
    have hzz : 0 ≤ zb (fl (ar 42) (l / 2)) * 2 ^ k := Int.mul_nonneg (zb_r _).1 (by omega)
    rw [← hrow] at hs hrs
    have e1 : ((k + 1 : Nat) : Int) - 1 = k := by omega
    rw [e1]
    have ek : ((k : Int)).toNat = k := rfl
    refine z_iload_6 dX7_actLetter_11 (n := 13) rfl ?_
    refine z_if_lt dX7_actLetter_13 (n := 16) (tg := 62) rfl (by decide) (by first | assumption | exact ⟨by omega, by omega⟩ | exact zb_zr _) (fun c13 => ?_) (fun c13 => ?_)
    · exfalso; omega
    · refine z_iload_4 dX7_actLetter_16 (n := 18) rfl ?_
      refine z_iconst dX7_actLetter_18 (n := 19) rfl ?_
      refine z_icmp_eq dX7_actLetter_19 (n := 22) (tg := 62) rfl (by decide) (by first | assumption | exact ⟨by omega, by omega⟩ | exact zb_zr _) (by first | assumption | exact ⟨by omega, by omega⟩ | exact zb_zr _) (fun c19 => ?_) (fun c19 => ?_)
      · refine z_iload_5 dX7_actLetter_62 (n := 64) rfl ?_
        refine z_ret_i dX7_actLetter_64 rfl ?_
        exact ⟨by rw [c19, rl_none], rfl⟩
      · rw [rl_step (hi := hi) c19]
        refine z_iload_2 dX7_actLetter_22 (n := 23) rfl ?_
        refine z_iload_6 dX7_actLetter_23 (n := 25) rfl ?_
        refine z_ishr dX7_actLetter_25 (n := 26) rfl (by first | assumption | exact ⟨by omega, by omega⟩ | exact zb_zr _) (by first | assumption | omega) (by first | assumption | omega) ?_
        refine z_iconst dX7_actLetter_26 (n := 27) rfl ?_
        rw [ek]
        refine z_iand1 dX7_actLetter_27 (n := 28) rfl (by first | assumption | omega) ?_
        rw [hs]
        refine z_istore_7 dX7_actLetter_28 (n := 30) rfl (by decide) (fun w h => by cases h; try rfl) ?_
        refine z_iload_5 dX7_actLetter_30 (n := 32) rfl ?_
        refine z_aload_0 dX7_actLetter_32 (n := 33) rfl ?_
        refine z_iload_4 dX7_actLetter_33 (n := 35) rfl ?_
        refine z_iconst dX7_actLetter_35 (n := 36) rfl ?_
        refine z_idiv dX7_actLetter_36 (n := 37) rfl (by first | assumption | omega) (by first | assumption | omega) (by first | assumption | omega) (by first | assumption | omega) ?_
        refine z_callV1i dX7_actLetter_37 (n := 40) rfl mv_X7_flipOf lk_X7_124 rfl (zrm (by decide) (by decide)) (Nat.le_of_ble_eq_true rfl) (c_X7_flipOf (by first | assumption | omega) (by first | assumption | omega) hM) (fun r u hp => ?_)
        obtain ⟨rfl, rfl⟩ := hp
        refine z_iload_6 dX7_actLetter_40 (n := 42) rfl ?_
        refine z_ishl dX7_actLetter_42 (n := 43) rfl (by first | assumption | omega) (by first | assumption | omega) ?_
        rw [ek]
        refine z_ixor dX7_actLetter_43 (n := 44) rfl (by first | assumption | omega) (by first | assumption | omega) ?_
        rw [hfl]
        refine z_istore_5 dX7_actLetter_44 (n := 46) rfl (by decide) (fun w h => by cases h; try rfl) ?_
        refine z_aload_0 dX7_actLetter_46 (n := 47) rfl ?_
        refine z_iload_4 dX7_actLetter_47 (n := 49) rfl ?_
        refine z_iload_7 dX7_actLetter_49 (n := 51) rfl ?_
        refine z_callV2i dX7_actLetter_51 (n := 54) rfl mv_X7_letterOn lk_X7_131 rfl (zrm (by decide) (by decide)) (Nat.le_of_ble_eq_true rfl) (c_X7_letterOn (by first | assumption | omega) (by first | assumption | omega) (by first | assumption | omega) (by first | assumption | omega) hM) (fun r u hp => ?_)
        obtain ⟨rfl, rfl⟩ := hp
        refine z_istore_4 dX7_actLetter_54 (n := 56) rfl (by decide) (fun w h => by cases h; try rfl) ?_
        refine z_iinc_6 dX7_actLetter_56 (n := 59) rfl (by decide) (fun w h => by cases h; try rfl) ?_
        refine z_goto dX7_actLetter_59 (n := 11) (by decide) ?_
        have hff := fb_r (kd := ar 42) (s := l / 2) hb.1 hb.2
        have hlb := lb_r hM (l := l) (b := x / 2 ^ k) (by omega) (by omega) hb.1 hb.2
        exact ih (hr * 2 + x / 2 ^ k) _ _ _ _ _ hrs (by omega) (by omega) (by omega) (hi_le g1 hb.2) (hi_le h1 hff.2) hmn hmm hlb.1 hlb.2
set_option maxHeartbeats 4000000 in
theorem c_X7_actLetter {G : zG} {sz : zSz} {ar : zAr} {l x n : Int} (hM : MOK (sz 41 0) (ar 42) (ar 43)) (h0 : 0 ≤ l) (h1 : l < 2 * sz 41 0) (hn0 : 0 ≤ n) (hn1 : n ≤ 12) (hx0 : 0 ≤ x) (hx1 : x < 2 ^ n.toNat)  : zSem G mX7_actLetter 2 [zR 41, zI l, zI x, zI n] (X sz ar) (zpi fun r u => r = rl (ar 42) (ar 43) n.toNat l x ∧ u = X sz ar) := by
  refine z_enter (L' := [some (zR 41), some (zI l), some (zI x), some (zI n), none, none, none, none]) (by decide +kernel) (Nat.le_of_ble_eq_true rfl) ⟨4, rfl⟩ ?_
  have hpp : ∀ k, k ≤ 12 → ((0 : Int) + 1) * 2 ^ k ≤ 4096 := by decide
  have h9 := lo_X7_actLetter (G := G) (sz := sz) (ar := ar) (l0 := l) (n0 := n) hM n.toNat 0 0 x l x none (by omega) (by omega) (by omega) (by omega) (hpp _ (by omega)) (hpp _ (by omega)) hx0 hx1 (by omega) h1
  rw [Int.zero_mul, Int.zero_add, Int.zero_add, Int.toNat_of_nonneg hn0] at h9
  refine z_iload_1 dX7_actLetter_0 (n := 1) rfl ?_
  refine z_istore_4 dX7_actLetter_1 (n := 3) rfl (by decide) (fun w h => by cases h; try rfl) ?_
  refine z_iload_2 dX7_actLetter_3 (n := 4) rfl ?_
  refine z_istore_5 dX7_actLetter_4 (n := 6) rfl (by decide) (fun w h => by cases h; try rfl) ?_
  refine z_iload_3 dX7_actLetter_6 (n := 7) rfl ?_
  refine z_iconst dX7_actLetter_7 (n := 8) rfl ?_
  refine z_isub dX7_actLetter_8 (n := 9) rfl ?_
  refine z_istore_6 dX7_actLetter_9 (n := 11) rfl (by decide) (fun w h => by cases h; try rfl) ?_
  exact h9
