/-! the reference: words that are gone through -/
def LL (fs : List (List Int)) (sz : zSz) (ar : zAr) : Prop := sz 41 14 = fs.length ∧ ∀ p : Nat, p < fs.length → LR (ar 51 p) (fun k => ar 52 (128 * p + k)) (fs.getD p [])
/-- only the list has changed -/
def Fl (sz : zSz) (ar : zAr) (sz' : zSz) (ar' : zAr) : Prop := (∀ j, j ≠ 41 → sz' j = sz j) ∧ (∀ i, i ≠ 14 → sz' 41 i = sz 41 i) ∧ ∀ j, j ≠ 51 → j ≠ 52 → ar' j = ar j
theorem Fl.rf {sz : zSz} {ar : zAr} : Fl sz ar sz ar := ⟨fun _ _ => rfl, fun _ _ => rfl, fun _ _ _ => rfl⟩
theorem Fl.g {sz sz' : zSz} {ar ar' : zAr} (h : Fl sz ar sz' ar') : Mg sz ar sz' ar' := ⟨h.1, fun i _ b _ => h.2.1 i b, fun j a => h.2.2 j (by omega) (by omega)⟩
theorem LL.m {fs : List (List Int)} {sz sz' : zSz} {ar ar' : zAr} (h : LL fs sz ar) (hF : Fm sz ar sz' ar') : LL fs sz' ar' := by
  unfold LL
  rw [hF.2.1 14 (by decide), hF.2.2 51 (by decide), hF.2.2 52 (by decide)]
  exact h
theorem Mg.M {sz sz' : zSz} {ar ar' : zAr} (h : Mg sz ar sz' ar') (hM : MOK (sz 41 0) (ar 42) (ar 43)) : MOK (sz' 41 0) (ar' 42) (ar' 43) ∧ sz' 41 0 = sz 41 0 ∧ ar' 42 = ar 42 ∧ ar' 43 = ar 43 := by
  have e0 := h.2.1 0 (by decide) (by decide) (by decide)
  have e2 := h.2.2 42 (by omega)
  have e3 := h.2.2 43 (by omega)
  rw [e0, e2, e3]
  exact ⟨hM, rfl, rfl, rfl⟩
theorem LR.same {a b : Int} {f g : Int → Int} {xs ys : List Int} (h : LR a f ys) (h2 : LR b g xs) : ys = xs ↔ (a = b ∧ ∀ j, 0 ≤ j → j < b → f j = g j) := by
  constructor
  · intro e
    subst e
    exact ⟨h.1.trans h2.1.symm, fun j j0 j1 => by rw [h.get j0 (by have := h.1; have := h2.1; omega), h2.get j0 j1]⟩
  · intro ⟨e, h3⟩
    have l1 := h.1
    have l2 := h2.1
    apply List.ext_getElem (by omega)
    intro i i1 i2
    have := h3 i (by omega) (by omega)
    rw [h.2 i i1, h2.2 i i2, List.getD_eq_getElem?_getD, List.getD_eq_getElem?_getD, List.getElem?_eq_getElem i1, List.getElem?_eq_getElem i2] at this
    simpa using this
def isP (sz : zSz) (ar : zAr) (n k : Int) : Prop := ar 51 n = sz 41 12 ∧ ∀ j, 0 ≤ j → j < k → ar 52 (128 * n + j) = ar 50 j
set_option maxHeartbeats 4000000 in
theorem c_X7_isListed {G : zG} {sz : zSz} {ar : zAr} {n : Int} {xs ys : List Int} (hn0 : 0 ≤ n) (hn1 : n ≤ 40) (hY : LR (ar 51 n) (fun k => ar 52 (128 * n + k)) ys) (hy : Ls ys) (hyc : ys.length ≤ 128) (hL : LR (sz 41 12) (ar 50) xs) (hx : Ls xs) (hxc : xs.length ≤ 128)  : zSem G mX7_isListed 0 [zR 41, zI n] (X sz ar) (zpi fun r u => r = zb (ys = xs) ∧ u = X sz ar) := by
  refine z_enter (L' := [some (zR 41), some (zI n), none, none]) (by decide +kernel) (Nat.le_of_ble_eq_true rfl) ⟨2, rfl⟩ ?_
  have l1 := hY.1
  have l2 := hL.1
  have hsm := hY.same hL
  have HO : ∀ (m : Nat) (k : Int), 0 ≤ k → k + m = sz 41 12 → zWP G mX7_isListed 0 (zpi fun r u => r = zb (ys = xs) ∧ u = X sz ar) 21 [some (zR 41), some (zI n), some (zI (zb (isP sz ar n k))), some (zI k)] [] (X sz ar) := by
    intro m
    induction m with
    | zero =>
      intro k hk0 hk
      have ek : k = sz 41 12 := by omega
      subst ek
      refine z_iload_3 dX7_isListed_21 (n := 22) rfl ?_
      refine z_aload_0 dX7_isListed_22 (n := 23) rfl ?_
      refine z_get dX7_isListed_23 (n := 26) rfl rfl fd_X7_105 rfl ?_
      refine z_icmp_ge dX7_isListed_26 (n := 29) (tg := 66) rfl (by decide) (by first | assumption | exact ⟨by omega, by omega⟩ | exact zb_zr _) (by first | assumption | exact ⟨by omega, by omega⟩ | exact zb_zr _) (fun c26 => ?_) (fun c26 => ?_)
      · refine z_iload_2 dX7_isListed_66 (n := 67) rfl ?_
        refine z_ret_z dX7_isListed_67 rfl (by first | exact Or.inl rfl | exact Or.inr rfl | exact zb_or _) ?_
        exact ⟨zb_iff ⟨fun z => hsm.mpr z, fun z => hsm.mp z⟩, rfl⟩
      · exfalso; omega
    | succ m ih =>
      intro k hk0 hk
      have h9 := ih (k + 1) (by omega) (by omega)
      have hxk := hx _ (hL.mem (i := k) (by omega) (by omega))
      refine z_iload_3 dX7_isListed_21 (n := 22) rfl ?_
      refine z_aload_0 dX7_isListed_22 (n := 23) rfl ?_
      refine z_get dX7_isListed_23 (n := 26) rfl rfl fd_X7_105 rfl ?_
      refine z_icmp_ge dX7_isListed_26 (n := 29) (tg := 66) rfl (by decide) (by first | assumption | exact ⟨by omega, by omega⟩ | exact zb_zr _) (by first | assumption | exact ⟨by omega, by omega⟩ | exact zb_zr _) (fun c26 => ?_) (fun c26 => ?_)
      · exfalso; omega
      · refine z_iload_2 dX7_isListed_29 (n := 30) rfl ?_
        refine z_ifB_eq dX7_isListed_30 (n := 33) (tg := 66) rfl (by decide) (fun c30 => ?_) (fun c30 => ?_)
        · refine z_iload_2 dX7_isListed_66 (n := 67) rfl ?_
          refine z_ret_z dX7_isListed_67 rfl (by first | exact Or.inl rfl | exact Or.inr rfl | exact zb_or _) ?_
          exact ⟨by rw [zb_f c30, zb_f (fun z => c30 ⟨(hsm.mp z).1, fun j a b => (hsm.mp z).2 j a (by omega)⟩)], rfl⟩
        · have he := c30.1
          have hyk : 0 ≤ ar 52 (128 * n + k) ∧ ar 52 (128 * n + k) < 12 := hy _ (hY.mem (i := k) (by omega) (by omega))
          refine z_aload_0 dX7_isListed_33 (n := 34) rfl ?_
          refine z_get dX7_isListed_34 (n := 37) rfl rfl fd_X7_41 rfl ?_
          refine z_sipush dX7_isListed_37 (n := 40) rfl (by decide) ?_
          refine z_iload_1 dX7_isListed_40 (n := 41) rfl ?_
          refine z_imul dX7_isListed_41 (n := 42) rfl ?_
          refine z_iload_3 dX7_isListed_42 (n := 43) rfl ?_
          refine z_iadd dX7_isListed_43 (n := 44) rfl ?_
          refine z_bald dX7_isListed_44 (n := 45) rfl rfl (by omega) (by omega) (by decide) ?_
          refine z_aload_0 dX7_isListed_45 (n := 46) rfl ?_
          refine z_get dX7_isListed_46 (n := 49) rfl rfl fd_X7_35 rfl ?_
          refine z_iload_3 dX7_isListed_49 (n := 50) rfl ?_
          refine z_iald dX7_isListed_50 (n := 51) rfl rfl (by omega) (by omega) (by decide) ?_
          refine z_icmp_ne dX7_isListed_51 (n := 54) (tg := 58) rfl (by decide) (by first | assumption | exact ⟨by omega, by omega⟩ | exact zb_zr _) (by first | assumption | exact ⟨by omega, by omega⟩ | exact zb_zr _) (fun c51 => ?_) (fun c51 => ?_)
          · rw [zb_f (p := isP sz ar n (k + 1)) (fun z => c51 (z.2 k hk0 (by omega)))] at h9
            refine z_iconst dX7_isListed_58 (n := 59) rfl ?_
            refine z_istore_2 dX7_isListed_59 (n := 60) rfl (by decide) (fun w h => by cases h; try rfl) ?_
            refine z_iinc_3 dX7_isListed_60 (n := 63) rfl (by decide) (fun w h => by cases h; try rfl) ?_
            refine z_goto dX7_isListed_63 (n := 21) (by decide) ?_
            exact h9
          · rw [zb_t (p := isP sz ar n (k + 1)) ⟨he, fun j a b => by by_cases e : j = k; (rw [e]; exact c51); exact c30.2 j a (by omega)⟩] at h9
            refine z_iconst dX7_isListed_54 (n := 55) rfl ?_
            refine z_goto dX7_isListed_55 (n := 59) (by decide) ?_
            refine z_istore_2 dX7_isListed_59 (n := 60) rfl (by decide) (fun w h => by cases h; try rfl) ?_
            refine z_iinc_3 dX7_isListed_60 (n := 63) rfl (by decide) (fun w h => by cases h; try rfl) ?_
            refine z_goto dX7_isListed_63 (n := 21) (by decide) ?_
            exact h9
  have h8 := HO (sz 41 12).toNat 0 (by omega) (by omega)
  refine z_aload_0 dX7_isListed_0 (n := 1) rfl ?_
  refine z_get dX7_isListed_1 (n := 4) rfl rfl fd_X7_38 rfl ?_
  refine z_iload_1 dX7_isListed_4 (n := 5) rfl ?_
  refine z_iald dX7_isListed_5 (n := 6) rfl rfl (by omega) (by omega) (by decide) ?_
  refine z_aload_0 dX7_isListed_6 (n := 7) rfl ?_
  refine z_get dX7_isListed_7 (n := 10) rfl rfl fd_X7_105 rfl ?_
  refine z_icmp_ne dX7_isListed_10 (n := 13) (tg := 17) rfl (by decide) (by first | assumption | exact ⟨by omega, by omega⟩ | exact zb_zr _) (by first | assumption | exact ⟨by omega, by omega⟩ | exact zb_zr _) (fun c10 => ?_) (fun c10 => ?_)
  · rw [zb_f (p := isP sz ar n 0) (fun z => c10 z.1)] at h8
    refine z_iconst dX7_isListed_17 (n := 18) rfl ?_
    refine z_istore_2 dX7_isListed_18 (n := 19) rfl (by decide) (fun w h => by cases h; try rfl) ?_
    refine z_iconst dX7_isListed_19 (n := 20) rfl ?_
    refine z_istore_3 dX7_isListed_20 (n := 21) rfl (by decide) (fun w h => by cases h; try rfl) ?_
    exact h8
  · rw [zb_t (p := isP sz ar n 0) ⟨c10, fun j a b => by omega⟩] at h8
    refine z_iconst dX7_isListed_13 (n := 14) rfl ?_
    refine z_goto dX7_isListed_14 (n := 18) (by decide) ?_
    refine z_istore_2 dX7_isListed_18 (n := 19) rfl (by decide) (fun w h => by cases h; try rfl) ?_
    refine z_iconst dX7_isListed_19 (n := 20) rfl ?_
    refine z_istore_3 dX7_isListed_20 (n := 21) rfl (by decide) (fun w h => by cases h; try rfl) ?_
    exact h8
def newP (fs : List (List Int)) (xs : List Int) (n : Int) : Prop := fs.length ≤ 40 ∧ ∀ p : Nat, (p : Int) < n → fs.getD p [] ≠ xs
theorem newP_old {fs : List (List Int)} {xs : List Int} {n : Int} (h : ¬ newP fs xs n) (hn : n ≤ fs.length) : addW fs xs = fs := by
  unfold addW
  by_cases e : fs.length > 40
  · rw [if_pos e]
  · rw [if_neg e, if_pos]
    apply Classical.byContradiction
    intro hm
    exact h ⟨by omega, fun p hp z => hm (by rw [← z]; exact getD_mem (by omega))⟩
theorem newP_new {fs : List (List Int)} {xs : List Int} (h : newP fs xs fs.length) : addW fs xs = fs ++ [xs] := by
  unfold addW
  have := h.1
  rw [if_neg (by omega), if_neg (fun z => ?_)]
  obtain ⟨p, hp, e⟩ := List.getElem_of_mem z
  exact h.2 p (by omega) (by rw [List.getD_eq_getElem?_getD, List.getElem?_eq_getElem hp]; exact e)
set_option maxHeartbeats 4000000 in
theorem l2_X7_enlist {G : zG} {sz : zSz} {ar : zAr} {xs : List Int} {fs : List (List Int)} {y n : Int} (hn6 : n ≤ 6) (hW : Wok n fs) (hf : fs.length ≤ 40) (hL : LR (sz 41 12) (ar 50) xs) (hx : Ls xs) (hxc : xs.length ≤ 128) (hLL : LL fs sz ar) :
    ∀ (m k : Nat) (ar' : zAr), k + m = xs.length → ar' 51 = zf (ar 51) fs.length xs.length → (∀ j : Int, 0 ≤ j → j < k → ar' 52 (128 * fs.length + j) = ar 50 j) → (∀ j : Int, j < 128 * fs.length → ar' 52 j = ar 52 j) → (∀ j, j ≠ 51 → j ≠ 52 → ar' j = ar j) →
    zWP G mX7_enlist 1 (zpv fun u => ∃ sz' ar', u = X sz' ar' ∧ LL (fs ++ [xs]) sz' ar' ∧ Fl sz ar sz' ar') 68 [some (zR 41), some (zI y), some (zI k)] [] (X sz ar') := by
  have hn := hL.1
  have hs := hLL.1
  intro m
  induction m with
  | zero =>
    intro k ar' hk h51 h52 h52b hF
    refine z_iload_2 dX7_enlist_68 (n := 69) rfl ?_
    refine z_aload_0 dX7_enlist_69 (n := 70) rfl ?_
    refine z_get dX7_enlist_70 (n := 73) rfl rfl fd_X7_105 rfl ?_
    refine z_icmp_ge dX7_enlist_73 (n := 76) (tg := 104) rfl (by decide) (by first | assumption | exact ⟨by omega, by omega⟩ | exact zb_zr _) (by first | assumption | exact ⟨by omega, by omega⟩ | exact zb_zr _) (fun c73 => ?_) (fun c73 => ?_)
    · refine z_aload_0 dX7_enlist_104 (n := 105) rfl ?_
      refine z_dup dX7_enlist_105 (n := 106) rfl rfl ?_
      refine z_get dX7_enlist_106 (n := 109) rfl rfl fd_X7_193 rfl ?_
      refine z_iconst dX7_enlist_109 (n := 110) rfl ?_
      refine z_iadd dX7_enlist_110 (n := 111) rfl ?_
      refine z_putX dX7_enlist_111 (n := 114) rfl rfl fw_X7_193 (by first | decide | simp) rfl ?_
      refine z_ret_v dX7_enlist_114 rfl ?_
      refine ⟨_, _, rfl, ⟨by rw [zz_eq, hs]; simp, fun p hp => ?_⟩, fun j hj => zz_ne hj, fun i hi => zz_ni hi, hF⟩
      rw [List.length_append] at hp
      simp only [List.length_cons, List.length_nil] at hp
      by_cases e : p < fs.length
      · have h1 := hLL.2 p e
        have h2 := h1.1
        rw [h51, zf_ne (by omega), List.getD_eq_getElem?_getD, List.getElem?_append_left e, ← List.getD_eq_getElem?_getD]
        have hlen : (fs.getD p []).length ≤ 128 := hW.2 _ (getD_mem e) |>.2
        exact ⟨h2, fun i hi => by show ar' 52 (128 * p + i) = _; rw [h52b _ (by omega)]; exact h1.2 i hi⟩
      · have e2 : p = fs.length := by omega
        subst e2
        rw [h51, zf_eq, List.getD_eq_getElem?_getD, List.getElem?_append_right (Nat.le_refl _)]
        simp only [Nat.sub_self, List.getElem?_cons_zero, Option.getD_some]
        exact ⟨rfl, fun i hi => by show ar' 52 (128 * fs.length + i) = _; rw [h52 i (by omega) (by omega)]; exact hL.2 i hi⟩
    · exfalso; omega
  | succ m ih =>
    intro k ar' hk h51 h52 h52b hF
    have e50 : ar' 50 = ar 50 := hF 50 (by decide) (by decide)
    have hxk := hx _ (hL.mem (i := k) (by omega) (by omega))
    refine z_iload_2 dX7_enlist_68 (n := 69) rfl ?_
    refine z_aload_0 dX7_enlist_69 (n := 70) rfl ?_
    refine z_get dX7_enlist_70 (n := 73) rfl rfl fd_X7_105 rfl ?_
    refine z_icmp_ge dX7_enlist_73 (n := 76) (tg := 104) rfl (by decide) (by first | assumption | exact ⟨by omega, by omega⟩ | exact zb_zr _) (by first | assumption | exact ⟨by omega, by omega⟩ | exact zb_zr _) (fun c73 => ?_) (fun c73 => ?_)
    · exfalso; omega
    · refine z_aload_0 dX7_enlist_76 (n := 77) rfl ?_
      refine z_get dX7_enlist_77 (n := 80) rfl rfl fd_X7_41 rfl ?_
      refine z_sipush dX7_enlist_80 (n := 83) rfl (by decide) ?_
      refine z_aload_0 dX7_enlist_83 (n := 84) rfl ?_
      refine z_get dX7_enlist_84 (n := 87) rfl rfl fd_X7_193 rfl ?_
      refine z_imul dX7_enlist_87 (n := 88) rfl ?_
      refine z_iload_2 dX7_enlist_88 (n := 89) rfl ?_
      refine z_iadd dX7_enlist_89 (n := 90) rfl ?_
      refine z_aload_0 dX7_enlist_90 (n := 91) rfl ?_
      refine z_get dX7_enlist_91 (n := 94) rfl rfl fd_X7_35 rfl ?_
      refine z_iload_2 dX7_enlist_94 (n := 95) rfl ?_
      refine z_iald dX7_enlist_95 (n := 96) rfl rfl (by omega) (by omega) (by decide) ?_
      rw [e50]
      refine z_i2b dX7_enlist_96 (n := 97) rfl (by omega) (by omega) ?_
      refine z_bastX dX7_enlist_97 (n := 98) rfl rfl (by omega) (by omega) (by decide) (by omega) (by omega) rfl ?_
      refine z_iinc_2 dX7_enlist_98 (n := 101) rfl (by decide) (fun w h => by cases h; try rfl) ?_
      refine z_goto dX7_enlist_101 (n := 68) (by decide) ?_
      have h9 := ih (k + 1) (zq ar' 52 (zf (ar' 52) (128 * sz 41 14 + k) (ar 50 k))) (by omega) (by rw [zq_ne (by decide)]; exact h51) (fun j a b => by rw [zq_eq, hs]; by_cases e : j = k; (rw [e, zf_eq]); (rw [zf_ne (by omega)]; exact h52 j a (by omega))) (fun j a => by rw [zq_eq, hs, zf_ne (by omega)]; exact h52b j a) (fun j a b => (zq_ne b).trans (hF j a b))
      rw [show ((k + 1 : Nat) : Int) = (k : Int) + 1 by omega] at h9
      exact h9
set_option maxHeartbeats 4000000 in
theorem c_X7_enlist {G : zG} {sz : zSz} {ar : zAr} {n : Int} {xs : List Int} {fs : List (List Int)} (hn6 : n ≤ 6) (hL : LR (sz 41 12) (ar 50) xs) (hx : Lt n xs) (hxc : xs.length ≤ 128) (hLL : LL fs sz ar) (hW : Wok n fs)  : zSem G mX7_enlist 1 [zR 41] (X sz ar) (zpv fun u => ∃ sz' ar', u = X sz' ar' ∧ LL (addW fs xs) sz' ar' ∧ Fl sz ar sz' ar') := by
  refine z_enter (L' := [some (zR 41), none, none]) (by decide +kernel) (Nat.le_of_ble_eq_true rfl) ⟨2, rfl⟩ ?_
  have hlen := hW.1
  have hs := hLL.1
  have hsz := hL.1
  have HO : ∀ (m n : Nat), n + m = fs.length → zWP G mX7_enlist 1 (zpv fun u => ∃ sz' ar', u = X sz' ar' ∧ LL (addW fs xs) sz' ar' ∧ Fl sz ar sz' ar') 17 [some (zR 41), some (zI (zb (newP fs xs n))), some (zI n)] [] (X sz ar) := by
    intro m
    induction m with
    | zero =>
      intro n hn
      have en : n = fs.length := by omega
      subst en
      refine z_iload_2 dX7_enlist_17 (n := 18) rfl ?_
      refine z_aload_0 dX7_enlist_18 (n := 19) rfl ?_
      refine z_get dX7_enlist_19 (n := 22) rfl rfl fd_X7_193 rfl ?_
      refine z_icmp_ge dX7_enlist_22 (n := 25) (tg := 49) rfl (by decide) (by first | assumption | exact ⟨by omega, by omega⟩ | exact zb_zr _) (by first | assumption | exact ⟨by omega, by omega⟩ | exact zb_zr _) (fun c22 => ?_) (fun c22 => ?_)
      · refine z_iload_1 dX7_enlist_49 (n := 50) rfl ?_
        refine z_ifB_eq dX7_enlist_50 (n := 53) (tg := 114) rfl (by decide) (fun c50 => ?_) (fun c50 => ?_)
        · refine z_ret_v dX7_enlist_114 rfl ?_
          exact ⟨_, _, rfl, by rw [newP_old c50 (by omega)]; exact hLL, Fl.rf⟩
        · have h40 := c50.1
          refine z_aload_0 dX7_enlist_53 (n := 54) rfl ?_
          refine z_get dX7_enlist_54 (n := 57) rfl rfl fd_X7_38 rfl ?_
          refine z_aload_0 dX7_enlist_57 (n := 58) rfl ?_
          refine z_get dX7_enlist_58 (n := 61) rfl rfl fd_X7_193 rfl ?_
          refine z_aload_0 dX7_enlist_61 (n := 62) rfl ?_
          refine z_get dX7_enlist_62 (n := 65) rfl rfl fd_X7_105 rfl ?_
          refine z_iastX dX7_enlist_65 (n := 66) rfl rfl (by omega) (by omega) (by decide) rfl ?_
          refine z_iconst dX7_enlist_66 (n := 67) rfl ?_
          refine z_istore_2 dX7_enlist_67 (n := 68) rfl (by decide) (fun w h => by cases h; try rfl) ?_
          rw [newP_new c50]
          exact l2_X7_enlist hn6 hW c50.1 hL (hx.Ls hn6) hxc hLL xs.length 0 _ (by omega) (by rw [zq_eq, hs, hsz]) (fun j a b => by omega) (fun j a => rfl) (fun j a b => zq_ne a)
      · exfalso; omega
    | succ m ih =>
      intro n hn
      have h9 := ih (n + 1) (by omega)
      rw [show ((n + 1 : Nat) : Int) = (n : Int) + 1 by omega] at h9
      have hwn := hW.2 _ (getD_mem (show n < fs.length by omega))
      refine z_iload_2 dX7_enlist_17 (n := 18) rfl ?_
      refine z_aload_0 dX7_enlist_18 (n := 19) rfl ?_
      refine z_get dX7_enlist_19 (n := 22) rfl rfl fd_X7_193 rfl ?_
      refine z_icmp_ge dX7_enlist_22 (n := 25) (tg := 49) rfl (by decide) (by first | assumption | exact ⟨by omega, by omega⟩ | exact zb_zr _) (by first | assumption | exact ⟨by omega, by omega⟩ | exact zb_zr _) (fun c22 => ?_) (fun c22 => ?_)
      · exfalso; omega
      · refine z_iload_1 dX7_enlist_25 (n := 26) rfl ?_
        refine z_ifB_eq dX7_enlist_26 (n := 29) (tg := 49) rfl (by decide) (fun c26 => ?_) (fun c26 => ?_)
        · refine z_iload_1 dX7_enlist_49 (n := 50) rfl ?_
          refine z_ifB_eq dX7_enlist_50 (n := 53) (tg := 114) rfl (by decide) (fun c50 => ?_) (fun c50 => ?_)
          · refine z_ret_v dX7_enlist_114 rfl ?_
            exact ⟨_, _, rfl, by rw [newP_old c26 (by omega)]; exact hLL, Fl.rf⟩
          · exact absurd c50 c26
        · refine z_aload_0 dX7_enlist_29 (n := 30) rfl ?_
          refine z_iload_2 dX7_enlist_30 (n := 31) rfl ?_
          refine z_callV1i dX7_enlist_31 (n := 34) rfl mv_X7_isListed lk_X7_196 rfl (zrm (by decide) (by decide)) (Nat.le_of_ble_eq_true rfl) (c_X7_isListed (by omega) (by omega) (hLL.2 n (by omega)) (hwn.1.Ls hn6) hwn.2 hL (hx.Ls hn6) hxc) (fun r u hp => ?_)
          obtain ⟨rfl, rfl⟩ := hp
          refine z_ifB_ne dX7_enlist_34 (n := 37) (tg := 41) rfl (by decide) (fun c34 => ?_) (fun c34 => ?_)
          · rw [zb_f (p := newP fs xs (n + 1)) (fun z => z.2 n (by omega) c34)] at h9
            refine z_iconst dX7_enlist_41 (n := 42) rfl ?_
            refine z_istore_1 dX7_enlist_42 (n := 43) rfl (by decide) (fun w h => by cases h; try rfl) ?_
            refine z_iinc_2 dX7_enlist_43 (n := 46) rfl (by decide) (fun w h => by cases h; try rfl) ?_
            refine z_goto dX7_enlist_46 (n := 17) (by decide) ?_
            exact h9
          · rw [zb_t (p := newP fs xs (n + 1)) ⟨c26.1, fun p hp => by by_cases e : p = n; (rw [e]; exact c34); exact c26.2 p (by omega)⟩] at h9
            refine z_iconst dX7_enlist_37 (n := 38) rfl ?_
            refine z_goto dX7_enlist_38 (n := 42) (by decide) ?_
            refine z_istore_1 dX7_enlist_42 (n := 43) rfl (by decide) (fun w h => by cases h; try rfl) ?_
            refine z_iinc_2 dX7_enlist_43 (n := 46) rfl (by decide) (fun w h => by cases h; try rfl) ?_
            refine z_goto dX7_enlist_46 (n := 17) (by decide) ?_
            exact h9
  have h8 := HO fs.length 0 (by omega)
  refine z_aload_0 dX7_enlist_0 (n := 1) rfl ?_
  refine z_get dX7_enlist_1 (n := 4) rfl rfl fd_X7_193 rfl ?_
  refine z_bipush dX7_enlist_4 (n := 6) rfl (by decide) ?_
  refine z_icmp_gt dX7_enlist_6 (n := 9) (tg := 13) rfl (by decide) (by first | assumption | exact ⟨by omega, by omega⟩ | exact zb_zr _) (by first | assumption | exact ⟨by omega, by omega⟩ | exact zb_zr _) (fun c6 => ?_) (fun c6 => ?_)
  · rw [zb_f (p := newP fs xs ((0 : Nat) : Int)) (fun z => by have := z.1; omega)] at h8
    refine z_iconst dX7_enlist_13 (n := 14) rfl ?_
    refine z_istore_1 dX7_enlist_14 (n := 15) rfl (by decide) (fun w h => by cases h; try rfl) ?_
    refine z_iconst dX7_enlist_15 (n := 16) rfl ?_
    refine z_istore_2 dX7_enlist_16 (n := 17) rfl (by decide) (fun w h => by cases h; try rfl) ?_
    exact h8
  · rw [zb_t (p := newP fs xs ((0 : Nat) : Int)) ⟨by omega, fun p hp => by omega⟩] at h8
    refine z_iconst dX7_enlist_9 (n := 10) rfl ?_
    refine z_goto dX7_enlist_10 (n := 14) (by decide) ?_
    refine z_istore_1 dX7_enlist_14 (n := 15) rfl (by decide) (fun w h => by cases h; try rfl) ?_
    refine z_iconst dX7_enlist_15 (n := 16) rfl ?_
    refine z_istore_2 dX7_enlist_16 (n := 17) rfl (by decide) (fun w h => by cases h; try rfl) ?_
    exact h8
set_option maxHeartbeats 4000000 in
theorem lo_X7_isFlipping {G : zG} {sz : zSz} {ar : zAr} {n : Int} {ys : List Int} (hn0 : 0 ≤ n) (hn1 : n ≤ 40) (hM : MOK (sz 41 0) (ar 42) (ar 43)) (hY : LR (ar 51 n) (fun k => ar 52 (128 * n + k)) ys) (hy : Lt (sz 41 0) ys) (hyc : ys.length ≤ 128) :
    ∀ (rest pre : List Int) (S : Int), ys = pre ++ rest → 0 ≤ S → S ≤ pre.length →
    zWP G mX7_isFlipping 1 (zpi fun r u => r = zb (fps (ar 42) rest (S % 2) = 1) ∧ u = X sz ar) 4 [some (zR 41), some (zI n), some (zI S), some (zI pre.length)] [] (X sz ar) := by
  have hn6 := hM.2.1
  have hl := hY.1
  intro rest
  induction rest with
  | nil =>
    intro pre S e h0 h1
    have el : ys.length = pre.length := by rw [e]; simp
    refine z_iload_3 dX7_isFlipping_4 (n := 5) rfl ?_
    refine z_aload_0 dX7_isFlipping_5 (n := 6) rfl ?_
    refine z_get dX7_isFlipping_6 (n := 9) rfl rfl fd_X7_38 rfl ?_
    refine z_iload_1 dX7_isFlipping_9 (n := 10) rfl ?_
    refine z_iald dX7_isFlipping_10 (n := 11) rfl rfl (by omega) (by omega) (by decide) ?_
    refine z_icmp_ge dX7_isFlipping_11 (n := 14) (tg := 41) rfl (by decide) (by first | assumption | exact ⟨by omega, by omega⟩ | exact zb_zr _) (by first | assumption | exact ⟨by omega, by omega⟩ | exact zb_zr _) (fun c11 => ?_) (fun c11 => ?_)
    · refine z_iload_2 dX7_isFlipping_41 (n := 42) rfl ?_
      refine z_iconst dX7_isFlipping_42 (n := 43) rfl ?_
      refine z_irem dX7_isFlipping_43 (n := 44) rfl (by omega) (by omega) (by omega) (by omega) ?_
      refine z_iconst dX7_isFlipping_44 (n := 45) rfl ?_
      refine z_icmp_ne dX7_isFlipping_45 (n := 48) (tg := 52) rfl (by decide) (by first | assumption | exact ⟨by omega, by omega⟩ | exact zb_zr _) (by first | assumption | exact ⟨by omega, by omega⟩ | exact zb_zr _) (fun c45 => ?_) (fun c45 => ?_)
      · rw [show zb (fps (ar 42) [] (S % 2) = 1) = 0 from zb_f c45]
        refine z_iconst dX7_isFlipping_52 (n := 53) rfl ?_
        refine z_ret_z dX7_isFlipping_53 rfl (by first | exact Or.inl rfl | exact Or.inr rfl | exact zb_or _) ?_
        exact ⟨rfl, rfl⟩
      · rw [show zb (fps (ar 42) [] (S % 2) = 1) = 1 from zb_t c45]
        refine z_iconst dX7_isFlipping_48 (n := 49) rfl ?_
        refine z_goto dX7_isFlipping_49 (n := 53) (by decide) ?_
        refine z_ret_z dX7_isFlipping_53 rfl (by first | exact Or.inl rfl | exact Or.inr rfl | exact zb_or _) ?_
        exact ⟨rfl, rfl⟩
    · exfalso; omega
  | cons a t ih =>
    intro pre S e h0 h1
    have el : ys.length = pre.length + (t.length + 1) := by rw [e]; simp
    have ha := hy a (by rw [e]; simp)
    have hm : ar 52 (128 * n + pre.length) = a := LR.mid (t := t) (n := ar 51 n) (f := fun k => ar 52 (128 * n + k)) (by rw [← e]; exact hY)
    have hz := zb_r (fl (ar 42) (a / 2))
    have h9 := ih (pre ++ [a]) (S + zb (fl (ar 42) (a / 2))) (by rw [e]; simp) (by omega) (by simp; omega)
    rw [show ((pre ++ [a]).length : Int) = (pre.length : Int) + 1 by simp] at h9
    have ef : fps (ar 42) (a :: t) (S % 2) = fps (ar 42) t ((S + zb (fl (ar 42) (a / 2))) % 2) := by
      show fps (ar 42) t (fb (ar 42) (a / 2) (S % 2)) = _
      congr 1
      unfold fb
      by_cases hf : fl (ar 42) (a / 2)
      · rw [if_pos hf, zb_t hf]; omega
      · rw [if_neg hf, zb_f hf]; omega
    rw [ef]
    refine z_iload_3 dX7_isFlipping_4 (n := 5) rfl ?_
    refine z_aload_0 dX7_isFlipping_5 (n := 6) rfl ?_
    refine z_get dX7_isFlipping_6 (n := 9) rfl rfl fd_X7_38 rfl ?_
    refine z_iload_1 dX7_isFlipping_9 (n := 10) rfl ?_
    refine z_iald dX7_isFlipping_10 (n := 11) rfl rfl (by omega) (by omega) (by decide) ?_
    refine z_icmp_ge dX7_isFlipping_11 (n := 14) (tg := 41) rfl (by decide) (by first | assumption | exact ⟨by omega, by omega⟩ | exact zb_zr _) (by first | assumption | exact ⟨by omega, by omega⟩ | exact zb_zr _) (fun c11 => ?_) (fun c11 => ?_)
    · exfalso; omega
    · refine z_iload_2 dX7_isFlipping_14 (n := 15) rfl ?_
      refine z_aload_0 dX7_isFlipping_15 (n := 16) rfl ?_
      refine z_aload_0 dX7_isFlipping_16 (n := 17) rfl ?_
      refine z_get dX7_isFlipping_17 (n := 20) rfl rfl fd_X7_41 rfl ?_
      refine z_sipush dX7_isFlipping_20 (n := 23) rfl (by decide) ?_
      refine z_iload_1 dX7_isFlipping_23 (n := 24) rfl ?_
      refine z_imul dX7_isFlipping_24 (n := 25) rfl ?_
      refine z_iload_3 dX7_isFlipping_25 (n := 26) rfl ?_
      refine z_iadd dX7_isFlipping_26 (n := 27) rfl ?_
      refine z_bald dX7_isFlipping_27 (n := 28) rfl rfl (by omega) (by omega) (by decide) ?_
      rw [hm]
      refine z_iconst dX7_isFlipping_28 (n := 29) rfl ?_
      refine z_idiv dX7_isFlipping_29 (n := 30) rfl (by omega) (by omega) (by omega) (by omega) ?_
      refine z_callV1i dX7_isFlipping_30 (n := 33) rfl mv_X7_flipOf lk_X7_124 rfl (zrm (by decide) (by decide)) (Nat.le_of_ble_eq_true rfl) (c_X7_flipOf (by omega) (by omega) hM) (fun r u hp => ?_)
      obtain ⟨rfl, rfl⟩ := hp
      refine z_iadd dX7_isFlipping_33 (n := 34) rfl ?_
      refine z_istore_2 dX7_isFlipping_34 (n := 35) rfl (by decide) (fun w h => by cases h; try rfl) ?_
      refine z_iinc_3 dX7_isFlipping_35 (n := 38) rfl (by decide) (fun w h => by cases h; try rfl) ?_
      refine z_goto dX7_isFlipping_38 (n := 4) (by decide) ?_
      exact h9
set_option maxHeartbeats 4000000 in
theorem c_X7_isFlipping {G : zG} {sz : zSz} {ar : zAr} {n : Int} {ys : List Int} (hn0 : 0 ≤ n) (hn1 : n ≤ 40) (hM : MOK (sz 41 0) (ar 42) (ar 43)) (hY : LR (ar 51 n) (fun k => ar 52 (128 * n + k)) ys) (hy : Lt (sz 41 0) ys) (hyc : ys.length ≤ 128)  : zSem G mX7_isFlipping 1 [zR 41, zI n] (X sz ar) (zpi fun r u => r = zb (fps (ar 42) ys 0 = 1) ∧ u = X sz ar) := by
  refine z_enter (L' := [some (zR 41), some (zI n), none, none]) (by decide +kernel) (Nat.le_of_ble_eq_true rfl) ⟨2, rfl⟩ ?_
  refine z_iconst dX7_isFlipping_0 (n := 1) rfl ?_
  refine z_istore_2 dX7_isFlipping_1 (n := 2) rfl (by decide) (fun w h => by cases h; try rfl) ?_
  refine z_iconst dX7_isFlipping_2 (n := 3) rfl ?_
  refine z_istore_3 dX7_isFlipping_3 (n := 4) rfl (by decide) (fun w h => by cases h; try rfl) ?_
  exact lo_X7_isFlipping hn0 hn1 hM hY hy hyc ys [] 0 rfl (by omega) (by omega)
theorem xfb {kd : Int → Int} {s b : Int} (h0 : 0 ≤ b) (h1 : b ≤ 1) : zxor b (zb (fl kd s)) = fb kd s b := by
  unfold fb
  by_cases h : fl kd s
  · rw [if_pos h, zb_t h]
    have : b = 0 ∨ b = 1 := by omega
    rcases this with rfl | rfl <;> rfl
  · rw [if_neg h, zb_f h]; exact zxor_zero h0
set_option maxHeartbeats 4000000 in
theorem lo_X7_makeSection {G : zG} {sz : zSz} {ar : zAr} {n b0 : Int} {ys : List Int} (hn0 : 0 ≤ n) (hn1 : n ≤ 40) (hM : MOK (sz 41 0) (ar 42) (ar 43)) (hY : LR (ar 51 n) (fun k => ar 52 (128 * n + k)) ys) (hy : Lt (sz 41 0) ys) (hyc : ys.length ≤ 128) :
    ∀ (rest pre acc : List Int) (b : Int) (x y : Option zV) (sz' : zSz) (ar' : zAr), ys = pre ++ rest → LR (sz' 41 12) (ar' 50) acc → Lt (sz 41 0) acc → acc.length + rest.length ≤ 128 → Fm sz ar sz' ar' → 0 ≤ b → b ≤ 1 → (∀ w, x = some w → zcat w = 1) →
    zWP G mX7_makeSection 2 (zpv (zMP (rest.foldl (sec1 (ar 42) (ar 43)) (acc, b)).1 sz ar)) 9 [some (zR 41), some (zI n), some (zI b0), some (zI b), some (zI pre.length), x, y] [] (X sz' ar') := by
  have hn6 := hM.2.1
  have hl := hY.1
  intro rest
  induction rest with
  | nil =>
    intro pre acc b x y sz' ar' e hL hA hcap hF h0 h1 hx
    have el : ys.length = pre.length := by rw [e]; simp
    have e51 : ar' 51 = ar 51 := hF.2.2 51 (by decide)
    refine z_iload_4 dX7_makeSection_9 (n := 11) rfl ?_
    refine z_aload_0 dX7_makeSection_11 (n := 12) rfl ?_
    refine z_get dX7_makeSection_12 (n := 15) rfl rfl fd_X7_38 rfl ?_
    refine z_iload_1 dX7_makeSection_15 (n := 16) rfl ?_
    refine z_iald dX7_makeSection_16 (n := 17) rfl rfl (by omega) (by omega) (by decide) ?_
    rw [e51]
    refine z_icmp_ge dX7_makeSection_17 (n := 20) (tg := 73) rfl (by decide) (by first | assumption | exact ⟨by omega, by omega⟩ | exact zb_zr _) (by first | assumption | exact ⟨by omega, by omega⟩ | exact zb_zr _) (fun c17 => ?_) (fun c17 => ?_)
    · refine z_ret_v dX7_makeSection_73 rfl ?_
      exact ⟨_, _, rfl, hL, hF⟩
    · exfalso; omega
  | cons a t ih =>
    intro pre acc b x y sz' ar' e hL hA hcap hF h0 h1 hx
    have el : ys.length = pre.length + (t.length + 1) := by rw [e]; simp
    have ha := hy a (by rw [e]; simp)
    have e51 : ar' 51 = ar 51 := hF.2.2 51 (by decide)
    have e52 : ar' 52 = ar 52 := hF.2.2 52 (by decide)
    have hm : ar 52 (128 * n + pre.length) = a := LR.mid (t := t) (n := ar 51 n) (f := fun k => ar 52 (128 * n + k)) (by rw [← e]; exact hY)
    obtain ⟨hM', e0, e42, e43⟩ := hF.g.M hM
    have hs := sec1_ok hM hA h0 h1 ha.1 ha.2
    have hlb := lb_r hM ha.1 ha.2 h0 h1
    have hzr := zb_r (fl (ar 42) (a / 2))
    have hxb := xfb (kd := ar 42) (s := a / 2) h0 h1
    simp only [List.length_cons] at hcap
    rw [List.foldl_cons]
    refine z_iload_4 dX7_makeSection_9 (n := 11) rfl ?_
    refine z_aload_0 dX7_makeSection_11 (n := 12) rfl ?_
    refine z_get dX7_makeSection_12 (n := 15) rfl rfl fd_X7_38 rfl ?_
    refine z_iload_1 dX7_makeSection_15 (n := 16) rfl ?_
    refine z_iald dX7_makeSection_16 (n := 17) rfl rfl (by omega) (by omega) (by decide) ?_
    rw [e51]
    refine z_icmp_ge dX7_makeSection_17 (n := 20) (tg := 73) rfl (by decide) (by first | assumption | exact ⟨by omega, by omega⟩ | exact zb_zr _) (by first | assumption | exact ⟨by omega, by omega⟩ | exact zb_zr _) (fun c17 => ?_) (fun c17 => ?_)
    · exfalso; omega
    · refine z_aload_0 dX7_makeSection_20 (n := 21) rfl ?_
      refine z_get dX7_makeSection_21 (n := 24) rfl rfl fd_X7_41 rfl ?_
      refine z_sipush dX7_makeSection_24 (n := 27) rfl (by decide) ?_
      refine z_iload_1 dX7_makeSection_27 (n := 28) rfl ?_
      refine z_imul dX7_makeSection_28 (n := 29) rfl ?_
      refine z_iload_4 dX7_makeSection_29 (n := 31) rfl ?_
      refine z_iadd dX7_makeSection_31 (n := 32) rfl ?_
      refine z_bald dX7_makeSection_32 (n := 33) rfl rfl (by omega) (by omega) (by decide) ?_
      rw [e52, hm]
      refine z_istore_5 dX7_makeSection_33 (n := 35) rfl (by decide) (fun w h => by cases h; try rfl) ?_
      refine z_aload_0 dX7_makeSection_35 (n := 36) rfl ?_
      refine z_iload_5 dX7_makeSection_36 (n := 38) rfl ?_
      refine z_iload_3 dX7_makeSection_38 (n := 39) rfl ?_
      refine z_callV2i dX7_makeSection_39 (n := 42) rfl mv_X7_letterOn lk_X7_131 rfl (zrm (by decide) (by decide)) (Nat.le_of_ble_eq_true rfl) (c_X7_letterOn (by omega) (by rw [e0]; omega) (by omega) (by omega) hM') (fun r u hp => ?_)
      obtain ⟨rfl, rfl⟩ := hp
      rw [e42, e43]
      refine z_istore_6 dX7_makeSection_42 (n := 44) rfl (by decide) (fun w h => by cases h; try rfl) ?_
      refine z_iload_6 dX7_makeSection_44 (n := 46) rfl ?_
      refine z_iconst dX7_makeSection_46 (n := 47) rfl ?_
      refine z_icmp_eq dX7_makeSection_47 (n := 50) (tg := 56) rfl (by decide) (by first | assumption | exact ⟨by omega, by omega⟩ | exact zb_zr _) (by first | assumption | exact ⟨by omega, by omega⟩ | exact zb_zr _) (fun c47 => ?_) (fun c47 => ?_)
      · have es : (sec1 (ar 42) (ar 43) (acc, b) a).1 = acc := if_pos c47
        have hL2 := hL
        have hF3 := hF
        have hMb := hM'
        have e0b := e0
        have e42b := e42
        refine z_iload_3 dX7_makeSection_56 (n := 57) rfl ?_
        refine z_aload_0 dX7_makeSection_57 (n := 58) rfl ?_
        refine z_iload_5 dX7_makeSection_58 (n := 60) rfl ?_
        refine z_iconst dX7_makeSection_60 (n := 61) rfl ?_
        refine z_idiv dX7_makeSection_61 (n := 62) rfl (by omega) (by omega) (by omega) (by omega) ?_
        refine z_callV1i dX7_makeSection_62 (n := 65) rfl mv_X7_flipOf lk_X7_124 rfl (zrm (by decide) (by decide)) (Nat.le_of_ble_eq_true rfl) (c_X7_flipOf (by omega) (by rw [e0b]; omega) hMb) (fun r u hp => ?_)
        obtain ⟨rfl, rfl⟩ := hp
        rw [e42b]
        refine z_ixor dX7_makeSection_65 (n := 66) rfl h0 hzr.1 ?_
        rw [hxb]
        refine z_istore_3 dX7_makeSection_66 (n := 67) rfl (by decide) (fun w h => by cases h; try rfl) ?_
        refine z_iinc_4 dX7_makeSection_67 (n := 70) rfl (by decide) (fun w h => by cases h; try rfl) ?_
        refine z_goto dX7_makeSection_70 (n := 9) (by decide) ?_
        have h9 := ih (pre ++ [a]) (sec1 (ar 42) (ar 43) (acc, b) a).1 (sec1 (ar 42) (ar 43) (acc, b) a).2 (some (zI a)) (some (zI (lb (ar 42) (ar 43) a b))) _ _ (by rw [e]; simp) (by rw [es]; exact hL2) hs.1 (by omega) hF3 hs.2.1 hs.2.2.1 (fun w h => by cases h; rfl)
        rw [show ((pre ++ [a]).length : Int) = (pre.length : Int) + 1 by simp] at h9
        exact h9
      · have es : (sec1 (ar 42) (ar 43) (acc, b) a).1 = red acc (lb (ar 42) (ar 43) a b) := if_neg c47
        refine z_aload_0 dX7_makeSection_50 (n := 51) rfl ?_
        refine z_iload_6 dX7_makeSection_51 (n := 53) rfl ?_
        refine z_callV1v dX7_makeSection_53 (n := 56) rfl mv_X7_comes lk_X7_108 rfl (zrm (by decide) (by decide)) (Nat.le_of_ble_eq_true rfl) (c_X7_comes (by omega) (by omega) hL (hA.Ls hn6) (by omega)) (fun u hp => ?_)
        obtain ⟨sz2, ar2, rfl, hL2, hF2⟩ := hp
        have hF3 := hF.tr hF2
        obtain ⟨hMb, e0b, e42b, e43b⟩ := hF3.g.M hM
        refine z_iload_3 dX7_makeSection_56 (n := 57) rfl ?_
        refine z_aload_0 dX7_makeSection_57 (n := 58) rfl ?_
        refine z_iload_5 dX7_makeSection_58 (n := 60) rfl ?_
        refine z_iconst dX7_makeSection_60 (n := 61) rfl ?_
        refine z_idiv dX7_makeSection_61 (n := 62) rfl (by omega) (by omega) (by omega) (by omega) ?_
        refine z_callV1i dX7_makeSection_62 (n := 65) rfl mv_X7_flipOf lk_X7_124 rfl (zrm (by decide) (by decide)) (Nat.le_of_ble_eq_true rfl) (c_X7_flipOf (by omega) (by rw [e0b]; omega) hMb) (fun r u hp => ?_)
        obtain ⟨rfl, rfl⟩ := hp
        rw [e42b]
        refine z_ixor dX7_makeSection_65 (n := 66) rfl h0 hzr.1 ?_
        rw [hxb]
        refine z_istore_3 dX7_makeSection_66 (n := 67) rfl (by decide) (fun w h => by cases h; try rfl) ?_
        refine z_iinc_4 dX7_makeSection_67 (n := 70) rfl (by decide) (fun w h => by cases h; try rfl) ?_
        refine z_goto dX7_makeSection_70 (n := 9) (by decide) ?_
        have h9 := ih (pre ++ [a]) (sec1 (ar 42) (ar 43) (acc, b) a).1 (sec1 (ar 42) (ar 43) (acc, b) a).2 (some (zI a)) (some (zI (lb (ar 42) (ar 43) a b))) _ _ (by rw [e]; simp) (by rw [es]; exact hL2) hs.1 (by omega) hF3 hs.2.1 hs.2.2.1 (fun w h => by cases h; rfl)
        rw [show ((pre ++ [a]).length : Int) = (pre.length : Int) + 1 by simp] at h9
        exact h9
set_option maxHeartbeats 4000000 in
theorem c_X7_makeSection {G : zG} {sz : zSz} {ar : zAr} {n b : Int} {ys : List Int} (hn0 : 0 ≤ n) (hn1 : n ≤ 40) (hM : MOK (sz 41 0) (ar 42) (ar 43)) (hY : LR (ar 51 n) (fun k => ar 52 (128 * n + k)) ys) (hy : Lt (sz 41 0) ys) (hyc : ys.length ≤ 128) (h0 : 0 ≤ b) (h1 : b ≤ 1)  : zSem G mX7_makeSection 2 [zR 41, zI n, zI b] (X sz ar) (zpv fun u => zMP (sec (ar 42) (ar 43) ys b) sz ar u) := by
  refine z_enter (L' := [some (zR 41), some (zI n), some (zI b), none, none, none, none]) (by decide +kernel) (Nat.le_of_ble_eq_true rfl) ⟨4, rfl⟩ ?_
  refine z_iload_2 dX7_makeSection_0 (n := 1) rfl ?_
  refine z_istore_3 dX7_makeSection_1 (n := 2) rfl (by decide) (fun w h => by cases h; try rfl) ?_
  refine z_aload_0 dX7_makeSection_2 (n := 3) rfl ?_
  refine z_callV0v dX7_makeSection_3 (n := 6) rfl mv_X7_begin lk_X7_118 rfl (zrm (by decide) (by decide)) (Nat.le_of_ble_eq_true rfl) (c_X7_begin) (fun u hp => ?_)
  obtain ⟨sz1, ar1, rfl, hL3, hF3⟩ := hp
  refine z_iconst dX7_makeSection_6 (n := 7) rfl ?_
  refine z_istore_4 dX7_makeSection_7 (n := 9) rfl (by decide) (fun w h => by cases h; try rfl) ?_
  have hY2 : LR (ar1 51 n) (fun k => ar1 52 (128 * n + k)) ys := by rw [hF3.2.2 51 (by decide), hF3.2.2 52 (by decide)]; exact hY
  obtain ⟨hMb, e0b, e42b, e43b⟩ := hF3.g.M hM
  have h9 := lo_X7_makeSection (G := G) (sz := sz1) (ar := ar1) (b0 := b) hn0 hn1 hMb hY2 (by rw [e0b]; exact hy) hyc ys [] [] b none none sz1 ar1 rfl hL3 Lt.nil (by simp; omega) Fm.rf h0 h1 (fun w h => by cases h)
  rw [e42b, e43b] at h9
  exact z_wkv h9 (fun v ⟨sz2, ar2, e2, hL2, hF2⟩ => ⟨sz2, ar2, e2, hL2, hF3.tr hF2⟩)
