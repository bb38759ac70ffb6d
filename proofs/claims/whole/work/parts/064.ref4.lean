/-! the reference: what is told of states and words -/
def szI (v : Int) : Nat → Int
  | 0 => 0
  | k + 1 => szI v k + v / 2 ^ k % 2
def wiI (v q : Int) : Nat → Int
  | 0 => 0
  | k + 1 => wiI v q k + (if v / 2 ^ k % 2 = 1 ∧ cld k q then 1 else 0)
theorem sz_all : ∀ v : Nat, v < 32 → szI v 16 = pcn v := by decide +kernel
theorem wi_all : ∀ v : Nat, v < 32 → ∀ q : Nat, q < 4 → wiI v q 5 = pcn (zand v (zsy q)) := by decide +kernel
set_option maxHeartbeats 4000000 in
theorem c_X7_size {G : zG} {sz : zSz} {ar : zAr} {v : Int} (h0 : 0 ≤ v) (h1 : v < 32)  : zSem G mX7_size 0 [zI v] (X sz ar) (zpi fun r u => r = pcn v ∧ u = X sz ar) := by
  refine z_enter (L' := [some (zI v), none, none]) (by decide +kernel) (Nat.le_of_ble_eq_true rfl) ⟨2, rfl⟩ ?_
  have e : szI v 16 = pcn v := by
    obtain ⟨x, rfl⟩ := Int.eq_ofNat_of_zero_le h0
    exact sz_all x (by omega)
  have HO : ∀ (m k : Nat), k + m = 16 → zWP G mX7_size 0 (zpi fun r u => r = pcn v ∧ u = X sz ar) 4 [some (zI v), some (zI (szI v k)), some (zI k)] [] (X sz ar) := by
    intro m
    induction m with
    | zero =>
      intro k hk
      have ek : k = 16 := by omega
      subst ek
      rw [e]
      refine z_iload_2 dX7_size_4 (n := 5) rfl ?_
      refine z_bipush dX7_size_5 (n := 7) rfl (by decide) ?_
      refine z_icmp_ge dX7_size_7 (n := 10) (tg := 24) rfl (by decide) (by first | assumption | exact ⟨by omega, by omega⟩ | exact zb_zr _) (by first | assumption | exact ⟨by omega, by omega⟩ | exact zb_zr _) (fun c7 => ?_) (fun c7 => ?_)
      · refine z_iload_1 dX7_size_24 (n := 25) rfl ?_
        refine z_ret_i dX7_size_25 rfl ?_
        exact ⟨rfl, rfl⟩
      · exfalso; omega
    | succ m ih =>
      intro k hk
      have hd : 0 ≤ v / 2 ^ k := Int.ediv_nonneg h0 (Int.le_of_lt (p2_pos _))
      have ek : ((k : Int)).toNat = k := rfl
      have h9 := ih (k + 1) (by omega)
      rw [show ((k + 1 : Nat) : Int) = (k : Int) + 1 by omega] at h9
      refine z_iload_2 dX7_size_4 (n := 5) rfl ?_
      refine z_bipush dX7_size_5 (n := 7) rfl (by decide) ?_
      refine z_icmp_ge dX7_size_7 (n := 10) (tg := 24) rfl (by decide) (by first | assumption | exact ⟨by omega, by omega⟩ | exact zb_zr _) (by first | assumption | exact ⟨by omega, by omega⟩ | exact zb_zr _) (fun c7 => ?_) (fun c7 => ?_)
      · exfalso; omega
      · refine z_iload_1 dX7_size_10 (n := 11) rfl ?_
        refine z_iload_0 dX7_size_11 (n := 12) rfl ?_
        refine z_iload_2 dX7_size_12 (n := 13) rfl ?_
        refine z_ishr dX7_size_13 (n := 14) rfl (by first | assumption | exact ⟨by omega, by omega⟩ | exact zb_zr _) (by first | assumption | omega) (by first | assumption | omega) ?_
        refine z_iconst dX7_size_14 (n := 15) rfl ?_
        rw [ek]
        refine z_iand1 dX7_size_15 (n := 16) rfl (by first | assumption | omega) ?_
        refine z_iadd dX7_size_16 (n := 17) rfl ?_
        refine z_istore_1 dX7_size_17 (n := 18) rfl (by decide) (fun w h => by cases h; try rfl) ?_
        refine z_iinc_2 dX7_size_18 (n := 21) rfl (by decide) (fun w h => by cases h; try rfl) ?_
        refine z_goto dX7_size_21 (n := 4) (by decide) ?_
        exact h9
  refine z_iconst dX7_size_0 (n := 1) rfl ?_
  refine z_istore_1 dX7_size_1 (n := 2) rfl (by decide) (fun w h => by cases h; try rfl) ?_
  refine z_iconst dX7_size_2 (n := 3) rfl ?_
  refine z_istore_2 dX7_size_3 (n := 4) rfl (by decide) (fun w h => by cases h; try rfl) ?_
  exact HO 16 0 rfl
set_option maxHeartbeats 4000000 in
theorem c_X7_withIt {G : zG} {sz : zSz} {ar : zAr} {v q : Int} (h0 : 0 ≤ v) (h1 : v < 32) (hq0 : 0 ≤ q) (hq1 : q < 4)  : zSem G mX7_withIt 1 [zI v, zI q] (X sz ar) (zpi fun r u => r = pcn (zand v (zsy q)) ∧ u = X sz ar) := by
  refine z_enter (L' := [some (zI v), some (zI q), none, none]) (by decide +kernel) (Nat.le_of_ble_eq_true rfl) ⟨2, rfl⟩ ?_
  have e : wiI v q 5 = pcn (zand v (zsy q)) := by
    obtain ⟨x, rfl⟩ := Int.eq_ofNat_of_zero_le h0
    obtain ⟨y, rfl⟩ := Int.eq_ofNat_of_zero_le hq0
    exact wi_all x (by omega) y (by omega)
  have HO : ∀ (m k : Nat), k + m = 5 → zWP G mX7_withIt 1 (zpi fun r u => r = pcn (zand v (zsy q)) ∧ u = X sz ar) 4 [some (zI v), some (zI q), some (zI (wiI v q k)), some (zI k)] [] (X sz ar) := by
    intro m
    induction m with
    | zero =>
      intro k hk
      have ek : k = 5 := by omega
      subst ek
      rw [e]
      refine z_iload_3 dX7_withIt_4 (n := 5) rfl ?_
      refine z_iconst dX7_withIt_5 (n := 6) rfl ?_
      refine z_icmp_ge dX7_withIt_6 (n := 9) (tg := 39) rfl (by decide) (by first | assumption | exact ⟨by omega, by omega⟩ | exact zb_zr _) (by first | assumption | exact ⟨by omega, by omega⟩ | exact zb_zr _) (fun c6 => ?_) (fun c6 => ?_)
      · refine z_iload_2 dX7_withIt_39 (n := 40) rfl ?_
        refine z_ret_i dX7_withIt_40 rfl ?_
        exact ⟨rfl, rfl⟩
      · exfalso; omega
    | succ m ih =>
      intro k hk
      have ek : ((k : Int)).toNat = k := rfl
      have h9 := ih (k + 1) (by omega)
      rw [show ((k + 1 : Nat) : Int) = (k : Int) + 1 by omega, show wiI v q (k + 1) = wiI v q k + (if v / 2 ^ k % 2 = 1 ∧ cld k q then 1 else 0) from rfl] at h9
      refine z_iload_3 dX7_withIt_4 (n := 5) rfl ?_
      refine z_iconst dX7_withIt_5 (n := 6) rfl ?_
      refine z_icmp_ge dX7_withIt_6 (n := 9) (tg := 39) rfl (by decide) (by first | assumption | exact ⟨by omega, by omega⟩ | exact zb_zr _) (by first | assumption | exact ⟨by omega, by omega⟩ | exact zb_zr _) (fun c6 => ?_) (fun c6 => ?_)
      · exfalso; omega
      · refine z_iload_2 dX7_withIt_9 (n := 10) rfl ?_
        refine z_iload_0 dX7_withIt_10 (n := 11) rfl ?_
        refine z_iload_3 dX7_withIt_11 (n := 12) rfl ?_
        refine z_callS2i dX7_withIt_12 (n := 15) rfl ms_X7_isBit lk_X7_144 (zrm (by decide) (by decide)) (Nat.le_of_ble_eq_true rfl) (c_X7_isBit (by first | assumption | exact ⟨by omega, by omega⟩ | exact zb_zr _) (by omega) (by omega) (by omega)) (fun r u hp => ?_)
        obtain ⟨rfl, rfl⟩ := hp
        refine z_ifB_eq dX7_withIt_15 (n := 18) (tg := 30) rfl (by decide) (fun c15 => ?_) (fun c15 => ?_)
        · rw [if_neg (fun z => c15 z.1)] at h9
          refine z_iconst dX7_withIt_30 (n := 31) rfl ?_
          refine z_iadd dX7_withIt_31 (n := 32) rfl ?_
          refine z_istore_2 dX7_withIt_32 (n := 33) rfl (by decide) (fun w h => by cases h; try rfl) ?_
          refine z_iinc_3 dX7_withIt_33 (n := 36) rfl (by decide) (fun w h => by cases h; try rfl) ?_
          refine z_goto dX7_withIt_36 (n := 4) (by decide) ?_
          exact h9
        · refine z_iload_3 dX7_withIt_18 (n := 19) rfl ?_
          refine z_iload_1 dX7_withIt_19 (n := 20) rfl ?_
          refine z_callS2i dX7_withIt_20 (n := 23) rfl ms_X7_could lk_X7_147 (zrm (by decide) (by decide)) (Nat.le_of_ble_eq_true rfl) (c_X7_could (by first | assumption | exact ⟨by omega, by omega⟩ | exact zb_zr _) (by first | assumption | exact ⟨by omega, by omega⟩ | exact zb_zr _)) (fun r u hp => ?_)
          obtain ⟨rfl, rfl⟩ := hp
          refine z_ifB_eq dX7_withIt_23 (n := 26) (tg := 30) rfl (by decide) (fun c23 => ?_) (fun c23 => ?_)
          · rw [if_neg (fun z => c23 z.2)] at h9
            refine z_iconst dX7_withIt_30 (n := 31) rfl ?_
            refine z_iadd dX7_withIt_31 (n := 32) rfl ?_
            refine z_istore_2 dX7_withIt_32 (n := 33) rfl (by decide) (fun w h => by cases h; try rfl) ?_
            refine z_iinc_3 dX7_withIt_33 (n := 36) rfl (by decide) (fun w h => by cases h; try rfl) ?_
            refine z_goto dX7_withIt_36 (n := 4) (by decide) ?_
            exact h9
          · rw [if_pos ⟨c15, c23⟩] at h9
            refine z_iconst dX7_withIt_26 (n := 27) rfl ?_
            refine z_goto dX7_withIt_27 (n := 31) (by decide) ?_
            refine z_iadd dX7_withIt_31 (n := 32) rfl ?_
            refine z_istore_2 dX7_withIt_32 (n := 33) rfl (by decide) (fun w h => by cases h; try rfl) ?_
            refine z_iinc_3 dX7_withIt_33 (n := 36) rfl (by decide) (fun w h => by cases h; try rfl) ?_
            refine z_goto dX7_withIt_36 (n := 4) (by decide) ?_
            exact h9
  refine z_iconst dX7_withIt_0 (n := 1) rfl ?_
  refine z_istore_2 dX7_withIt_1 (n := 2) rfl (by decide) (fun w h => by cases h; try rfl) ?_
  refine z_iconst dX7_withIt_2 (n := 3) rfl ?_
  refine z_istore_3 dX7_withIt_3 (n := 4) rfl (by decide) (fun w h => by cases h; try rfl) ?_
  exact HO 5 0 rfl
def bqR (v : Int) : Nat → Int × Int
  | 0 => (-1, 268435456)
  | i + 1 => bqS v (bqR v i) i
theorem bqR_4 {v : Int} (h : 0 ≤ v) (hv : v ≠ 0) : (bqR v 4).1 = bq v := by
  have := lft_r (q := 0) h
  have e : bqR v 1 = (0, lft v 0) := if_pos (show lft v 0 < 268435456 by omega)
  unfold bq
  rw [if_neg hv, ← e]
  rfl
theorem bqR_r {v : Int} (h : 0 ≤ v) : ∀ i, -5 ≤ (bqR v i).2 ∧ (bqR v i).2 ≤ 268435456 := by
  intro i
  induction i with
  | zero => exact ⟨show (-5 : Int) ≤ 268435456 by decide, show (268435456 : Int) ≤ 268435456 by decide⟩
  | succ i ih =>
    have := lft_r (q := i) h
    show -5 ≤ (bqS v (bqR v i) i).2 ∧ (bqS v (bqR v i) i).2 ≤ 268435456
    unfold bqS
    split
    · dsimp only; omega
    · exact ih
set_option maxHeartbeats 4000000 in
theorem lo_X7_ask {G : zG} {sz : zSz} {ar : zAr} {s v : Int} (h0 : 0 ≤ v) (h1 : v < 32) (hv : v ≠ 0) : ∀ (m i : Nat) (a b c : Option zV), (∀ w, a = some w → zcat w = 1) → (∀ w, b = some w → zcat w = 1) → i + m = 4 → zWP G mX7_ask 2 (zpi fun r u => r = bq v ∧ u = X sz ar) 15 [some (zR 41), some (zI s), some (zI v), some (zI (bqR v i).1), some (zI (bqR v i).2), some (zI i), a, b, c] [] (X sz ar) := by
  intro m
  induction m with
  | zero =>
    intro i a b c ca cb hi
    have ei : i = 4 := by omega
    subst ei
    refine z_iload_5 dX7_ask_15 (n := 17) rfl ?_
    refine z_iconst dX7_ask_17 (n := 18) rfl ?_
    refine z_icmp_ge dX7_ask_18 (n := 21) (tg := 94) rfl (by decide) (by first | assumption | exact ⟨by omega, by omega⟩ | exact zb_zr _) (by first | assumption | exact ⟨by omega, by omega⟩ | exact zb_zr _) (fun c18 => ?_) (fun c18 => ?_)
    · refine z_iload_3 dX7_ask_94 (n := 95) rfl ?_
      refine z_ret_i dX7_ask_95 rfl ?_
      exact ⟨bqR_4 h0 hv, rfl⟩
    · exfalso; omega
  | succ m ih =>
    intro i a b c ca cb hi
    have hz := pcn_r (zand_0 v (zsy i))
    have hz2 := pcn_r h0
    have hbr := bqR_r h0 i
    have hlr := lft_r (q := i) h0
    have h9 : ∀ (x y z : Int), _ := fun x y z => ih (i + 1) (some (zI x)) (some (zI y)) (some (zI z)) (fun w h => by cases h; rfl) (fun w h => by cases h; rfl) (by omega)
    rw [show ((i + 1 : Nat) : Int) = (i : Int) + 1 by omega] at h9
    refine z_iload_5 dX7_ask_15 (n := 17) rfl ?_
    refine z_iconst dX7_ask_17 (n := 18) rfl ?_
    refine z_icmp_ge dX7_ask_18 (n := 21) (tg := 94) rfl (by decide) (by first | assumption | exact ⟨by omega, by omega⟩ | exact zb_zr _) (by first | assumption | exact ⟨by omega, by omega⟩ | exact zb_zr _) (fun c18 => ?_) (fun c18 => ?_)
    · exfalso; omega
    · refine z_iload_2 dX7_ask_21 (n := 22) rfl ?_
      refine z_if_eq dX7_ask_22 (n := 25) (tg := 94) rfl (by decide) (by first | assumption | exact ⟨by omega, by omega⟩ | exact zb_zr _) (fun c22 => ?_) (fun c22 => ?_)
      · exact absurd c22 hv
      · refine z_iload_2 dX7_ask_25 (n := 26) rfl ?_
        refine z_iload_5 dX7_ask_26 (n := 28) rfl ?_
        refine z_callS2i dX7_ask_28 (n := 31) rfl ms_X7_withIt lk_X7_154 (zrm (by decide) (by decide)) (Nat.le_of_ble_eq_true rfl) (c_X7_withIt (by omega) (by omega) (by omega) (by omega)) (fun r u hp => ?_)
        obtain ⟨rfl, rfl⟩ := hp
        refine z_istore_6 dX7_ask_31 (n := 33) rfl (by decide) (fun w h => by cases h; try rfl) ?_
        refine z_iload_2 dX7_ask_33 (n := 34) rfl ?_
        refine z_callS1i dX7_ask_34 (n := 37) rfl ms_X7_size lk_X7_157 (zrm (by decide) (by decide)) (Nat.le_of_ble_eq_true rfl) (c_X7_size (by omega) (by omega)) (fun r u hp => ?_)
        obtain ⟨rfl, rfl⟩ := hp
        refine z_iload_6 dX7_ask_37 (n := 39) rfl ?_
        refine z_isub dX7_ask_39 (n := 40) rfl ?_
        refine z_istore_7 dX7_ask_40 (n := 42) rfl (by decide) (fun w h => by cases h; try rfl) ?_
        refine z_iload_6 dX7_ask_42 (n := 44) rfl ?_
        refine z_iload_7 dX7_ask_44 (n := 46) rfl ?_
        refine z_icmp_le dX7_ask_46 (n := 49) (tg := 54) rfl (by decide) (by first | assumption | exact ⟨by omega, by omega⟩ | exact zb_zr _) (by first | assumption | exact ⟨by omega, by omega⟩ | exact zb_zr _) (fun c46 => ?_) (fun c46 => ?_)
        · have hl : pcn v - pcn (zand v (zsy i)) = lft v i := by unfold lft; split <;> omega
          refine z_iload_7 dX7_ask_54 (n := 56) rfl ?_
          rw [hl]
          refine z_istore_8 dX7_ask_56 (n := 58) rfl (by decide) (fun w h => by cases h; try rfl) ?_
          refine z_iload_8 dX7_ask_58 (n := 60) rfl ?_
          refine z_iload_4 dX7_ask_60 (n := 62) rfl ?_
          refine z_icmp_ge dX7_ask_62 (n := 65) (tg := 70) rfl (by decide) (by first | assumption | exact ⟨by omega, by omega⟩ | exact zb_zr _) (by first | assumption | exact ⟨by omega, by omega⟩ | exact zb_zr _) (fun c62 => ?_) (fun c62 => ?_)
          · rw [show bqR v (i + 1) = bqR v i from if_neg (by omega)] at h9
            refine z_iload_3 dX7_ask_70 (n := 71) rfl ?_
            refine z_istore_3 dX7_ask_71 (n := 72) rfl (by decide) (fun w h => by cases h; try rfl) ?_
            refine z_iload_8 dX7_ask_72 (n := 74) rfl ?_
            refine z_iload_4 dX7_ask_74 (n := 76) rfl ?_
            refine z_icmp_ge dX7_ask_76 (n := 79) (tg := 84) rfl (by decide) (by first | assumption | exact ⟨by omega, by omega⟩ | exact zb_zr _) (by first | assumption | exact ⟨by omega, by omega⟩ | exact zb_zr _) (fun c76 => ?_) (fun c76 => ?_)
            · refine z_iload_4 dX7_ask_84 (n := 86) rfl ?_
              refine z_istore_4 dX7_ask_86 (n := 88) rfl (by decide) (fun w h => by cases h; try rfl) ?_
              refine z_iinc_5 dX7_ask_88 (n := 91) rfl (by decide) (fun w h => by cases h; try rfl) ?_
              refine z_goto dX7_ask_91 (n := 15) (by decide) ?_
              first | (exfalso; omega) | exact h9 _ _ _
            · refine z_iload_8 dX7_ask_79 (n := 81) rfl ?_
              refine z_goto dX7_ask_81 (n := 86) (by decide) ?_
              refine z_istore_4 dX7_ask_86 (n := 88) rfl (by decide) (fun w h => by cases h; try rfl) ?_
              refine z_iinc_5 dX7_ask_88 (n := 91) rfl (by decide) (fun w h => by cases h; try rfl) ?_
              refine z_goto dX7_ask_91 (n := 15) (by decide) ?_
              first | (exfalso; omega) | exact h9 _ _ _
          · rw [show bqR v (i + 1) = ((i : Int), lft v i) from if_pos (by omega)] at h9
            refine z_iload_5 dX7_ask_65 (n := 67) rfl ?_
            refine z_goto dX7_ask_67 (n := 71) (by decide) ?_
            refine z_istore_3 dX7_ask_71 (n := 72) rfl (by decide) (fun w h => by cases h; try rfl) ?_
            refine z_iload_8 dX7_ask_72 (n := 74) rfl ?_
            refine z_iload_4 dX7_ask_74 (n := 76) rfl ?_
            refine z_icmp_ge dX7_ask_76 (n := 79) (tg := 84) rfl (by decide) (by first | assumption | exact ⟨by omega, by omega⟩ | exact zb_zr _) (by first | assumption | exact ⟨by omega, by omega⟩ | exact zb_zr _) (fun c76 => ?_) (fun c76 => ?_)
            · refine z_iload_4 dX7_ask_84 (n := 86) rfl ?_
              refine z_istore_4 dX7_ask_86 (n := 88) rfl (by decide) (fun w h => by cases h; try rfl) ?_
              refine z_iinc_5 dX7_ask_88 (n := 91) rfl (by decide) (fun w h => by cases h; try rfl) ?_
              refine z_goto dX7_ask_91 (n := 15) (by decide) ?_
              first | (exfalso; omega) | exact h9 _ _ _
            · refine z_iload_8 dX7_ask_79 (n := 81) rfl ?_
              refine z_goto dX7_ask_81 (n := 86) (by decide) ?_
              refine z_istore_4 dX7_ask_86 (n := 88) rfl (by decide) (fun w h => by cases h; try rfl) ?_
              refine z_iinc_5 dX7_ask_88 (n := 91) rfl (by decide) (fun w h => by cases h; try rfl) ?_
              refine z_goto dX7_ask_91 (n := 15) (by decide) ?_
              first | (exfalso; omega) | exact h9 _ _ _
        · have hl : pcn (zand v (zsy i)) = lft v i := by unfold lft; split <;> omega
          refine z_iload_6 dX7_ask_49 (n := 51) rfl ?_
          refine z_goto dX7_ask_51 (n := 56) (by decide) ?_
          rw [hl]
          refine z_istore_8 dX7_ask_56 (n := 58) rfl (by decide) (fun w h => by cases h; try rfl) ?_
          refine z_iload_8 dX7_ask_58 (n := 60) rfl ?_
          refine z_iload_4 dX7_ask_60 (n := 62) rfl ?_
          refine z_icmp_ge dX7_ask_62 (n := 65) (tg := 70) rfl (by decide) (by first | assumption | exact ⟨by omega, by omega⟩ | exact zb_zr _) (by first | assumption | exact ⟨by omega, by omega⟩ | exact zb_zr _) (fun c62 => ?_) (fun c62 => ?_)
          · rw [show bqR v (i + 1) = bqR v i from if_neg (by omega)] at h9
            refine z_iload_3 dX7_ask_70 (n := 71) rfl ?_
            refine z_istore_3 dX7_ask_71 (n := 72) rfl (by decide) (fun w h => by cases h; try rfl) ?_
            refine z_iload_8 dX7_ask_72 (n := 74) rfl ?_
            refine z_iload_4 dX7_ask_74 (n := 76) rfl ?_
            refine z_icmp_ge dX7_ask_76 (n := 79) (tg := 84) rfl (by decide) (by first | assumption | exact ⟨by omega, by omega⟩ | exact zb_zr _) (by first | assumption | exact ⟨by omega, by omega⟩ | exact zb_zr _) (fun c76 => ?_) (fun c76 => ?_)
            · refine z_iload_4 dX7_ask_84 (n := 86) rfl ?_
              refine z_istore_4 dX7_ask_86 (n := 88) rfl (by decide) (fun w h => by cases h; try rfl) ?_
              refine z_iinc_5 dX7_ask_88 (n := 91) rfl (by decide) (fun w h => by cases h; try rfl) ?_
              refine z_goto dX7_ask_91 (n := 15) (by decide) ?_
              first | (exfalso; omega) | exact h9 _ _ _
            · refine z_iload_8 dX7_ask_79 (n := 81) rfl ?_
              refine z_goto dX7_ask_81 (n := 86) (by decide) ?_
              refine z_istore_4 dX7_ask_86 (n := 88) rfl (by decide) (fun w h => by cases h; try rfl) ?_
              refine z_iinc_5 dX7_ask_88 (n := 91) rfl (by decide) (fun w h => by cases h; try rfl) ?_
              refine z_goto dX7_ask_91 (n := 15) (by decide) ?_
              first | (exfalso; omega) | exact h9 _ _ _
          · rw [show bqR v (i + 1) = ((i : Int), lft v i) from if_pos (by omega)] at h9
            refine z_iload_5 dX7_ask_65 (n := 67) rfl ?_
            refine z_goto dX7_ask_67 (n := 71) (by decide) ?_
            refine z_istore_3 dX7_ask_71 (n := 72) rfl (by decide) (fun w h => by cases h; try rfl) ?_
            refine z_iload_8 dX7_ask_72 (n := 74) rfl ?_
            refine z_iload_4 dX7_ask_74 (n := 76) rfl ?_
            refine z_icmp_ge dX7_ask_76 (n := 79) (tg := 84) rfl (by decide) (by first | assumption | exact ⟨by omega, by omega⟩ | exact zb_zr _) (by first | assumption | exact ⟨by omega, by omega⟩ | exact zb_zr _) (fun c76 => ?_) (fun c76 => ?_)
            · refine z_iload_4 dX7_ask_84 (n := 86) rfl ?_
              refine z_istore_4 dX7_ask_86 (n := 88) rfl (by decide) (fun w h => by cases h; try rfl) ?_
              refine z_iinc_5 dX7_ask_88 (n := 91) rfl (by decide) (fun w h => by cases h; try rfl) ?_
              refine z_goto dX7_ask_91 (n := 15) (by decide) ?_
              first | (exfalso; omega) | exact h9 _ _ _
            · refine z_iload_8 dX7_ask_79 (n := 81) rfl ?_
              refine z_goto dX7_ask_81 (n := 86) (by decide) ?_
              refine z_istore_4 dX7_ask_86 (n := 88) rfl (by decide) (fun w h => by cases h; try rfl) ?_
              refine z_iinc_5 dX7_ask_88 (n := 91) rfl (by decide) (fun w h => by cases h; try rfl) ?_
              refine z_goto dX7_ask_91 (n := 15) (by decide) ?_
              first | (exfalso; omega) | exact h9 _ _ _
set_option maxHeartbeats 4000000 in
theorem c_X7_ask {G : zG} {sz : zSz} {ar : zAr} {s : Int} (hs : zr s) (hs0 : 0 ≤ sz 41 6) (hs1 : sz 41 6 ≤ 6) (hof : ∀ i, zr (ar 46 i)) (hwh : ∀ i, zr (ar 47 i)) (hco : ∀ i, ar 48 i = 0 ∨ ar 48 i = 1)  : zSem G mX7_ask 2 [zR 41, zI s] (X sz ar) (zpi fun r u => r = bq (srt (sz 41 6) (ar 46) (ar 47) (ar 48) s 5) ∧ u = X sz ar) := by
  refine z_enter (L' := [some (zR 41), some (zI s), none, none, none, none, none, none, none]) (by decide +kernel) (Nat.le_of_ble_eq_true rfl) ⟨7, rfl⟩ ?_
  have hr := srt_r (sz 41 6) (ar 46) (ar 47) (ar 48) s 5
  generalize hv : srt (sz 41 6) (ar 46) (ar 47) (ar 48) s 5 = v at hr
  have hr1 : v < 32 := hr.2
  have H0 : v = 0 → zWP G mX7_ask 2 (zpi fun r u => r = bq v ∧ u = X sz ar) 15 [some (zR 41), some (zI s), some (zI v), some (zI (-1)), some (zI 268435456), some (zI 0), none, none, none] [] (X sz ar) := by
    intro hz
    refine z_iload_5 dX7_ask_15 (n := 17) rfl ?_
    refine z_iconst dX7_ask_17 (n := 18) rfl ?_
    refine z_icmp_ge dX7_ask_18 (n := 21) (tg := 94) rfl (by decide) (by first | assumption | exact ⟨by omega, by omega⟩ | exact zb_zr _) (by first | assumption | exact ⟨by omega, by omega⟩ | exact zb_zr _) (fun c18 => ?_) (fun c18 => ?_)
    · exfalso; omega
    · refine z_iload_2 dX7_ask_21 (n := 22) rfl ?_
      refine z_if_eq dX7_ask_22 (n := 25) (tg := 94) rfl (by decide) (by first | assumption | exact ⟨by omega, by omega⟩ | exact zb_zr _) (fun c22 => ?_) (fun c22 => ?_)
      · refine z_iload_3 dX7_ask_94 (n := 95) rfl ?_
        refine z_ret_i dX7_ask_95 rfl ?_
        exact ⟨(if_pos hz).symm, rfl⟩
      · exact absurd hz c22
  refine z_aload_0 dX7_ask_0 (n := 1) rfl ?_
  refine z_iload_1 dX7_ask_1 (n := 2) rfl ?_
  refine z_callV1i dX7_ask_2 (n := 5) rfl mv_X7_sorts lk_X7_150 rfl (zrm (by decide) (by decide)) (Nat.le_of_ble_eq_true rfl) (c_X7_sorts (by first | assumption | exact ⟨by omega, by omega⟩ | exact zb_zr _) hs0 hs1 hof hwh hco) (fun r u hp => ?_)
  obtain ⟨rfl, rfl⟩ := hp
  rw [hv]
  refine z_istore_2 dX7_ask_5 (n := 6) rfl (by decide) (fun w h => by cases h; try rfl) ?_
  refine z_iconst dX7_ask_6 (n := 7) rfl ?_
  refine z_istore_3 dX7_ask_7 (n := 8) rfl (by decide) (fun w h => by cases h; try rfl) ?_
  refine z_ldc dX7_ask_8 (n := 10) rfl kn_X7_153 ?_
  refine z_istore_4 dX7_ask_10 (n := 12) rfl (by decide) (fun w h => by cases h; try rfl) ?_
  refine z_iconst dX7_ask_12 (n := 13) rfl ?_
  refine z_istore_5 dX7_ask_13 (n := 15) rfl (by decide) (fun w h => by cases h; try rfl) ?_
  by_cases hz : v = 0
  · exact H0 hz
  · exact lo_X7_ask hr.1 hr1 hz 4 0 none none none (fun w h => by cases h) (fun w h => by cases h) rfl
set_option maxHeartbeats 4000000 in
theorem c_X7_isState {G : zG} {sz : zSz} {ar : zAr} {s : Int} (hs : zr s) (h0 : 0 ≤ sz 41 0) (h1 : sz 41 0 ≤ 6)  : zSem G mX7_isState 1 [zR 41, zI s] (X sz ar) (zpi fun r u => r = zb (0 ≤ s ∧ s < sz 41 0) ∧ u = X sz ar) := by
  refine z_enter (L' := [some (zR 41), some (zI s)]) (by decide +kernel) (Nat.le_of_ble_eq_true rfl) ⟨0, rfl⟩ ?_
  refine z_iload_1 dX7_isState_0 (n := 1) rfl ?_
  refine z_iconst dX7_isState_1 (n := 2) rfl ?_
  refine z_aload_0 dX7_isState_2 (n := 3) rfl ?_
  refine z_get dX7_isState_3 (n := 6) rfl rfl fd_X7_96 rfl ?_
  refine z_iconst dX7_isState_6 (n := 7) rfl ?_
  refine z_isub dX7_isState_7 (n := 8) rfl ?_
  refine z_callS3i dX7_isState_8 (n := 11) rfl ms_X7_within lk_X7_69 (zrm (by decide) (by decide)) (Nat.le_of_ble_eq_true rfl) (c_X7_within (by first | assumption | exact ⟨by omega, by omega⟩ | exact zb_zr _) (by first | assumption | exact ⟨by omega, by omega⟩ | exact zb_zr _) (by first | assumption | exact ⟨by omega, by omega⟩ | exact zb_zr _)) (fun r u hp => ?_)
  obtain ⟨rfl, rfl⟩ := hp
  refine z_ret_z dX7_isState_11 rfl (by first | exact Or.inl rfl | exact Or.inr rfl | exact zb_or _) ?_
  exact ⟨zb_iff (by omega), rfl⟩
noncomputable def soR (sz : zSz) (ar : zAr) : Int → Int := fun s => srt (sz 41 6) (ar 46) (ar 47) (ar 48) s 5
set_option maxHeartbeats 4000000 in
theorem c_X7_stateNow {G : zG} {sz : zSz} {ar : zAr} {ws : Int → List Int} {s q : Int} (hC : MK ws sz ar) (h0 : 0 ≤ s) (h1 : s < sz 41 0) (hq0 : 0 ≤ q) (hq1 : q ≤ 7)  : zSem G mX7_stateNow 5 [zR 41, zI s, zI q] (X sz ar) (zpi fun r u => r = stV (sz 41 0) (ar 42) (ar 43) (soR sz ar) s q ∧ u = X sz ar) := by
  refine z_enter (L' := [some (zR 41), some (zI s), some (zI q)]) (by decide +kernel) (Nat.le_of_ble_eq_true rfl) ⟨0, rfl⟩ ?_
  obtain ⟨hM, ⟨hp0, hp1, hc⟩, hW, ⟨hs0, hs1, hof, hwh, hco⟩, hmr, hkm⟩ := hC
  have hn := hM.1
  have hn6 := hM.2.1
  refine z_iload_2 dX7_stateNow_0 (n := 1) rfl ?_
  refine z_by (0) (fun q1 => ?_) (fun q1_0 => ?_)
  · refine z_tsIn (off := 43) (tg := 44) dX7_stateNow_1 (by first | assumption | exact ⟨by omega, by omega⟩ | exact zb_zr _) (by omega) (by omega) (by rw [q1]; rfl) (by decide) ?_
    refine z_aload_0 dX7_stateNow_44 (n := 45) rfl ?_
    refine z_get dX7_stateNow_45 (n := 48) rfl rfl fd_X7_7 rfl ?_
    refine z_iload_1 dX7_stateNow_48 (n := 49) rfl ?_
    refine z_iald dX7_stateNow_49 (n := 50) rfl rfl (by omega) (by omega) (by decide) ?_
    refine z_ret_i dX7_stateNow_50 rfl ?_
    exact ⟨by rw [q1]; rfl, rfl⟩
  · skip
    refine z_by (1) (fun q1 => ?_) (fun q1_1 => ?_)
    · refine z_tsIn (off := 50) (tg := 51) dX7_stateNow_1 (by first | assumption | exact ⟨by omega, by omega⟩ | exact zb_zr _) (by omega) (by omega) (by rw [q1]; rfl) (by decide) ?_
      refine z_aload_0 dX7_stateNow_51 (n := 52) rfl ?_
      refine z_get dX7_stateNow_52 (n := 55) rfl rfl fd_X7_13 rfl ?_
      refine z_iconst dX7_stateNow_55 (n := 56) rfl ?_
      refine z_iload_1 dX7_stateNow_56 (n := 57) rfl ?_
      refine z_imul dX7_stateNow_57 (n := 58) rfl ?_
      refine z_iald dX7_stateNow_58 (n := 59) rfl rfl (by omega) (by omega) (by decide) ?_
      refine z_ret_i dX7_stateNow_59 rfl ?_
      exact ⟨by unfold stV; rw [if_neg (by omega), if_pos (by omega), show 2 * s + 0 = 2 * s by omega], rfl⟩
    · skip
      refine z_by (2) (fun q1 => ?_) (fun q1_2 => ?_)
      · refine z_tsIn (off := 59) (tg := 60) dX7_stateNow_1 (by first | assumption | exact ⟨by omega, by omega⟩ | exact zb_zr _) (by omega) (by omega) (by rw [q1]; rfl) (by decide) ?_
        refine z_aload_0 dX7_stateNow_60 (n := 61) rfl ?_
        refine z_get dX7_stateNow_61 (n := 64) rfl rfl fd_X7_13 rfl ?_
        refine z_iconst dX7_stateNow_64 (n := 65) rfl ?_
        refine z_iload_1 dX7_stateNow_65 (n := 66) rfl ?_
        refine z_imul dX7_stateNow_66 (n := 67) rfl ?_
        refine z_iconst dX7_stateNow_67 (n := 68) rfl ?_
        refine z_iadd dX7_stateNow_68 (n := 69) rfl ?_
        refine z_iald dX7_stateNow_69 (n := 70) rfl rfl (by omega) (by omega) (by decide) ?_
        refine z_ret_i dX7_stateNow_70 rfl ?_
        exact ⟨by rw [q1]; rfl, rfl⟩
      · skip
        refine z_by (3) (fun q1 => ?_) (fun q1_3 => ?_)
        · refine z_tsIn (off := 70) (tg := 71) dX7_stateNow_1 (by first | assumption | exact ⟨by omega, by omega⟩ | exact zb_zr _) (by omega) (by omega) (by rw [q1]; rfl) (by decide) ?_
          refine z_aload_0 dX7_stateNow_71 (n := 72) rfl ?_
          refine z_iload_1 dX7_stateNow_72 (n := 73) rfl ?_
          refine z_callV1i dX7_stateNow_73 (n := 76) rfl mv_X7_reach lk_X7_160 rfl (zrm (by decide) (by decide)) (Nat.le_of_ble_eq_true rfl) (c_X7_reach (by omega) (by omega) hM) (fun r u hp => ?_)
          obtain ⟨rfl, rfl⟩ := hp
          have hrr := rch_r hM h0 h1
          refine z_ret_i dX7_stateNow_76 rfl ?_
          exact ⟨by rw [q1]; rfl, rfl⟩
        · skip
          refine z_by (4) (fun q1 => ?_) (fun q1_4 => ?_)
          · refine z_tsIn (off := 76) (tg := 77) dX7_stateNow_1 (by first | assumption | exact ⟨by omega, by omega⟩ | exact zb_zr _) (by omega) (by omega) (by rw [q1]; rfl) (by decide) ?_
            refine z_aload_0 dX7_stateNow_77 (n := 78) rfl ?_
            refine z_iload_1 dX7_stateNow_78 (n := 79) rfl ?_
            refine z_callV1i dX7_stateNow_79 (n := 82) rfl mv_X7_reach lk_X7_160 rfl (zrm (by decide) (by decide)) (Nat.le_of_ble_eq_true rfl) (c_X7_reach (by omega) (by omega) hM) (fun r u hp => ?_)
            obtain ⟨rfl, rfl⟩ := hp
            have hrr := rch_r hM h0 h1
            refine z_iload_1 dX7_stateNow_82 (n := 83) rfl ?_
            refine z_callS2i dX7_stateNow_83 (n := 86) rfl ms_X7_isBit lk_X7_144 (zrm (by decide) (by decide)) (Nat.le_of_ble_eq_true rfl) (c_X7_isBit (by first | assumption | exact ⟨by omega, by omega⟩ | exact zb_zr _) (by omega) (by omega) (by omega)) (fun r u hp => ?_)
            obtain ⟨rfl, rfl⟩ := hp
            refine z_ifB_eq dX7_stateNow_86 (n := 89) (tg := 93) rfl (by decide) (fun c86 => ?_) (fun c86 => ?_)
            · rw [q1, show stV (sz 41 0) (ar 42) (ar 43) (soR sz ar) s 4 = 0 from zb_f c86]
              refine z_iconst dX7_stateNow_93 (n := 94) rfl ?_
              refine z_ret_i dX7_stateNow_94 rfl ?_
              exact ⟨rfl, rfl⟩
            · rw [q1, show stV (sz 41 0) (ar 42) (ar 43) (soR sz ar) s 4 = 1 from zb_t c86]
              refine z_iconst dX7_stateNow_89 (n := 90) rfl ?_
              refine z_goto dX7_stateNow_90 (n := 94) (by decide) ?_
              refine z_ret_i dX7_stateNow_94 rfl ?_
              exact ⟨rfl, rfl⟩
          · skip
            refine z_by (5) (fun q1 => ?_) (fun q1_5 => ?_)
            · refine z_tsIn (off := 94) (tg := 95) dX7_stateNow_1 (by first | assumption | exact ⟨by omega, by omega⟩ | exact zb_zr _) (by omega) (by omega) (by rw [q1]; rfl) (by decide) ?_
              refine z_aload_0 dX7_stateNow_95 (n := 96) rfl ?_
              refine z_iload_1 dX7_stateNow_96 (n := 97) rfl ?_
              refine z_callV1i dX7_stateNow_97 (n := 100) rfl mv_X7_leastAlike lk_X7_163 rfl (zrm (by decide) (by decide)) (Nat.le_of_ble_eq_true rfl) (c_X7_leastAlike (by omega) (by omega) hM) (fun r u hp => ?_)
              obtain ⟨rfl, rfl⟩ := hp
              refine z_ret_i dX7_stateNow_100 rfl ?_
              exact ⟨by rw [q1]; rfl, rfl⟩
            · skip
              refine z_by (6) (fun q1 => ?_) (fun q1_6 => ?_)
              · refine z_tsIn (off := 100) (tg := 101) dX7_stateNow_1 (by first | assumption | exact ⟨by omega, by omega⟩ | exact zb_zr _) (by omega) (by omega) (by rw [q1]; rfl) (by decide) ?_
                refine z_aload_0 dX7_stateNow_101 (n := 102) rfl ?_
                refine z_iload_1 dX7_stateNow_102 (n := 103) rfl ?_
                refine z_callV1i dX7_stateNow_103 (n := 106) rfl mv_X7_sorts lk_X7_150 rfl (zrm (by decide) (by decide)) (Nat.le_of_ble_eq_true rfl) (c_X7_sorts (by first | assumption | exact ⟨by omega, by omega⟩ | exact zb_zr _) hs0 hs1 hof hwh hco) (fun r u hp => ?_)
                obtain ⟨rfl, rfl⟩ := hp
                refine z_ret_i dX7_stateNow_106 rfl ?_
                exact ⟨by rw [q1]; rfl, rfl⟩
              · skip
                refine z_tsOut (tg := 107) dX7_stateNow_1 (by first | assumption | exact ⟨by omega, by omega⟩ | exact zb_zr _) (by omega) (by decide) ?_
                refine z_aload_0 dX7_stateNow_107 (n := 108) rfl ?_
                refine z_iload_1 dX7_stateNow_108 (n := 109) rfl ?_
                refine z_callV1i dX7_stateNow_109 (n := 112) rfl mv_X7_ask lk_X7_166 rfl (zrm (by decide) (by decide)) (Nat.le_of_ble_eq_true rfl) (c_X7_ask (by first | assumption | exact ⟨by omega, by omega⟩ | exact zb_zr _) hs0 hs1 hof hwh hco) (fun r u hp => ?_)
                obtain ⟨rfl, rfl⟩ := hp
                refine z_ret_i dX7_stateNow_112 rfl ?_
                exact ⟨by rw [show q = 7 by omega]; rfl, rfl⟩
set_option maxHeartbeats 4000000 in
theorem c_X7_state {G : zG} {sz : zSz} {ar : zAr} {ws : Int → List Int} {s q : Int} (hs : zr s) (hq : zr q) (hC : MK ws sz ar)  : zSem G mX7_state 6 [zR 41, zI s, zI q] (X sz ar) (zpi fun r u => r = (if ¬ (0 ≤ s ∧ s < sz 41 0) then -101 else if ¬ (0 ≤ q ∧ q ≤ 7) then -102 else stV (sz 41 0) (ar 42) (ar 43) (soR sz ar) s q) ∧ u = X sz ar) := by
  refine z_enter (L' := [some (zR 41), some (zI s), some (zI q)]) (by decide +kernel) (Nat.le_of_ble_eq_true rfl) ⟨0, rfl⟩ ?_
  have hn := hC.1.1
  have hn6 := hC.1.2.1
  refine z_aload_0 dX7_state_0 (n := 1) rfl ?_
  refine z_iload_1 dX7_state_1 (n := 2) rfl ?_
  refine z_callV1i dX7_state_2 (n := 5) rfl mv_X7_isState lk_X7_169 rfl (zrm (by decide) (by decide)) (Nat.le_of_ble_eq_true rfl) (c_X7_isState (by first | assumption | exact ⟨by omega, by omega⟩ | exact zb_zr _) (by omega) (by omega)) (fun r u hp => ?_)
  obtain ⟨rfl, rfl⟩ := hp
  refine z_ifB_ne dX7_state_5 (n := 8) (tg := 13) rfl (by decide) (fun c5 => ?_) (fun c5 => ?_)
  · rw [if_neg (fun z => z c5)]
    refine z_iload_2 dX7_state_13 (n := 14) rfl ?_
    refine z_iconst dX7_state_14 (n := 15) rfl ?_
    refine z_bipush dX7_state_15 (n := 17) rfl (by decide) ?_
    refine z_callS3i dX7_state_17 (n := 20) rfl ms_X7_within lk_X7_69 (zrm (by decide) (by decide)) (Nat.le_of_ble_eq_true rfl) (c_X7_within (by first | assumption | exact ⟨by omega, by omega⟩ | exact zb_zr _) (by first | assumption | exact ⟨by omega, by omega⟩ | exact zb_zr _) (by first | assumption | exact ⟨by omega, by omega⟩ | exact zb_zr _)) (fun r u hp => ?_)
    obtain ⟨rfl, rfl⟩ := hp
    refine z_ifB_eq dX7_state_20 (n := 23) (tg := 32) rfl (by decide) (fun c20 => ?_) (fun c20 => ?_)
    · rw [if_pos c20]
      refine z_bipush dX7_state_32 (n := 34) rfl (by decide) ?_
      refine z_ret_i dX7_state_34 rfl ?_
      exact ⟨rfl, rfl⟩
    · rw [if_neg (fun z => z c20)]
      refine z_aload_0 dX7_state_23 (n := 24) rfl ?_
      refine z_iload_1 dX7_state_24 (n := 25) rfl ?_
      refine z_iload_2 dX7_state_25 (n := 26) rfl ?_
      refine z_callV2i dX7_state_26 (n := 29) rfl mv_X7_stateNow lk_X7_172 rfl (zrm (by decide) (by decide)) (Nat.le_of_ble_eq_true rfl) (c_X7_stateNow hC c5.1 c5.2 c20.1 c20.2) (fun r u hp => ?_)
      obtain ⟨rfl, rfl⟩ := hp
      refine z_goto dX7_state_29 (n := 34) (by decide) ?_
      refine z_ret_i dX7_state_34 rfl ?_
      exact ⟨rfl, rfl⟩
  · rw [if_pos c5]
    refine z_bipush dX7_state_8 (n := 10) rfl (by decide) ?_
    refine z_goto dX7_state_10 (n := 34) (by decide) ?_
    refine z_ret_i dX7_state_34 rfl ?_
    exact ⟨rfl, rfl⟩
set_option maxHeartbeats 4000000 in
theorem c_X7_isSuch {G : zG} {sz : zSz} {ar : zAr} {a b : Int} (ha : zr a) (hb : zr b)  : zSem G mX7_isSuch 0 [zI a, zI b] (X sz ar) (zpi fun r u => r = zb (b = 0 ∨ b = a ∨ (b = 1 ∧ a = 2)) ∧ u = X sz ar) := by
  refine z_enter (L' := [some (zI a), some (zI b)]) (by decide +kernel) (Nat.le_of_ble_eq_true rfl) ⟨0, rfl⟩ ?_
  refine z_iload_1 dX7_isSuch_0 (n := 1) rfl ?_
  refine z_if_eq dX7_isSuch_1 (n := 4) (tg := 19) rfl (by decide) (by first | assumption | exact ⟨by omega, by omega⟩ | exact zb_zr _) (fun c1 => ?_) (fun c1 => ?_)
  · refine z_iconst dX7_isSuch_19 (n := 20) rfl ?_
    refine z_goto dX7_isSuch_20 (n := 24) (by decide) ?_
    refine z_ret_z dX7_isSuch_24 rfl (by first | exact Or.inl rfl | exact Or.inr rfl | exact zb_or _) ?_
    first | exact ⟨(zb_t (by omega)).symm, rfl⟩ | exact ⟨(zb_f (by omega)).symm, rfl⟩
  · refine z_iload_1 dX7_isSuch_4 (n := 5) rfl ?_
    refine z_iload_0 dX7_isSuch_5 (n := 6) rfl ?_
    refine z_icmp_eq dX7_isSuch_6 (n := 9) (tg := 19) rfl (by decide) (by first | assumption | exact ⟨by omega, by omega⟩ | exact zb_zr _) (by first | assumption | exact ⟨by omega, by omega⟩ | exact zb_zr _) (fun c6 => ?_) (fun c6 => ?_)
    · refine z_iconst dX7_isSuch_19 (n := 20) rfl ?_
      refine z_goto dX7_isSuch_20 (n := 24) (by decide) ?_
      refine z_ret_z dX7_isSuch_24 rfl (by first | exact Or.inl rfl | exact Or.inr rfl | exact zb_or _) ?_
      first | exact ⟨(zb_t (by omega)).symm, rfl⟩ | exact ⟨(zb_f (by omega)).symm, rfl⟩
    · refine z_iload_1 dX7_isSuch_9 (n := 10) rfl ?_
      refine z_iconst dX7_isSuch_10 (n := 11) rfl ?_
      refine z_icmp_ne dX7_isSuch_11 (n := 14) (tg := 23) rfl (by decide) (by first | assumption | exact ⟨by omega, by omega⟩ | exact zb_zr _) (by first | assumption | exact ⟨by omega, by omega⟩ | exact zb_zr _) (fun c11 => ?_) (fun c11 => ?_)
      · refine z_iconst dX7_isSuch_23 (n := 24) rfl ?_
        refine z_ret_z dX7_isSuch_24 rfl (by first | exact Or.inl rfl | exact Or.inr rfl | exact zb_or _) ?_
        first | exact ⟨(zb_t (by omega)).symm, rfl⟩ | exact ⟨(zb_f (by omega)).symm, rfl⟩
      · refine z_iload_0 dX7_isSuch_14 (n := 15) rfl ?_
        refine z_iconst dX7_isSuch_15 (n := 16) rfl ?_
        refine z_icmp_ne dX7_isSuch_16 (n := 19) (tg := 23) rfl (by decide) (by first | assumption | exact ⟨by omega, by omega⟩ | exact zb_zr _) (by first | assumption | exact ⟨by omega, by omega⟩ | exact zb_zr _) (fun c16 => ?_) (fun c16 => ?_)
        · refine z_iconst dX7_isSuch_23 (n := 24) rfl ?_
          refine z_ret_z dX7_isSuch_24 rfl (by first | exact Or.inl rfl | exact Or.inr rfl | exact zb_or _) ?_
          first | exact ⟨(zb_t (by omega)).symm, rfl⟩ | exact ⟨(zb_f (by omega)).symm, rfl⟩
        · refine z_iconst dX7_isSuch_19 (n := 20) rfl ?_
          refine z_goto dX7_isSuch_20 (n := 24) (by decide) ?_
          refine z_ret_z dX7_isSuch_24 rfl (by first | exact Or.inl rfl | exact Or.inr rfl | exact zb_or _) ?_
          first | exact ⟨(zb_t (by omega)).symm, rfl⟩ | exact ⟨(zb_f (by omega)).symm, rfl⟩
set_option maxHeartbeats 4000000 in
theorem c_X7_as {G : zG} {sz : zSz} {ar : zAr} {s k : Int} (hs : zr s) (hk : zr k) (hM : MOK (sz 41 0) (ar 42) (ar 43))  : zSem G mX7_as 2 [zR 41, zI s, zI k] (X sz ar) (zpi fun r u => u = X sz ar ∧ r = (if ¬ (0 ≤ s ∧ s < sz 41 0) then -101 else if ¬ (0 ≤ k ∧ k < 5) then -102 else if k = 0 ∨ k = ar 42 s ∨ (k = 1 ∧ ar 42 s = 2) then s else -1)) := by
  refine z_enter (L' := [some (zR 41), some (zI s), some (zI k)]) (by decide +kernel) (Nat.le_of_ble_eq_true rfl) ⟨0, rfl⟩ ?_
  have hn := hM.1
  have hn6 := hM.2.1
  have hkk := fun (h : 0 ≤ s ∧ s < sz 41 0) => hM.2.2.1 s h.1 h.2
  refine z_aload_0 dX7_as_0 (n := 1) rfl ?_
  refine z_iload_1 dX7_as_1 (n := 2) rfl ?_
  refine z_callV1i dX7_as_2 (n := 5) rfl mv_X7_isState lk_X7_169 rfl (zrm (by decide) (by decide)) (Nat.le_of_ble_eq_true rfl) (c_X7_isState (by first | assumption | exact ⟨by omega, by omega⟩ | exact zb_zr _) (by omega) (by omega)) (fun r u hp => ?_)
  obtain ⟨rfl, rfl⟩ := hp
  refine z_ifB_ne dX7_as_5 (n := 8) (tg := 11) rfl (by decide) (fun c5 => ?_) (fun c5 => ?_)
  · rw [if_neg (fun z => z c5)]
    replace hkk := hkk c5
    refine z_iload_2 dX7_as_11 (n := 12) rfl ?_
    refine z_iconst dX7_as_12 (n := 13) rfl ?_
    refine z_iconst dX7_as_13 (n := 14) rfl ?_
    refine z_callS3i dX7_as_14 (n := 17) rfl ms_X7_within lk_X7_69 (zrm (by decide) (by decide)) (Nat.le_of_ble_eq_true rfl) (c_X7_within (by first | assumption | exact ⟨by omega, by omega⟩ | exact zb_zr _) (by first | assumption | exact ⟨by omega, by omega⟩ | exact zb_zr _) (by first | assumption | exact ⟨by omega, by omega⟩ | exact zb_zr _)) (fun r u hp => ?_)
    obtain ⟨rfl, rfl⟩ := hp
    refine z_ifB_ne dX7_as_17 (n := 20) (tg := 25) rfl (by decide) (fun c17 => ?_) (fun c17 => ?_)
    · rw [if_neg (by omega)]
      refine z_aload_0 dX7_as_25 (n := 26) rfl ?_
      refine z_get dX7_as_26 (n := 29) rfl rfl fd_X7_7 rfl ?_
      refine z_iload_1 dX7_as_29 (n := 30) rfl ?_
      refine z_iald dX7_as_30 (n := 31) rfl rfl (by omega) (by omega) (by decide) ?_
      refine z_iload_2 dX7_as_31 (n := 32) rfl ?_
      refine z_callS2i dX7_as_32 (n := 35) rfl ms_X7_isSuch lk_X7_175 (zrm (by decide) (by decide)) (Nat.le_of_ble_eq_true rfl) (c_X7_isSuch (by first | assumption | exact ⟨by omega, by omega⟩ | exact zb_zr _) (by first | assumption | exact ⟨by omega, by omega⟩ | exact zb_zr _)) (fun r u hp => ?_)
      obtain ⟨rfl, rfl⟩ := hp
      refine z_ifB_eq dX7_as_35 (n := 38) (tg := 42) rfl (by decide) (fun c35 => ?_) (fun c35 => ?_)
      · rw [if_neg c35]
        refine z_iconst dX7_as_42 (n := 43) rfl ?_
        refine z_ret_i dX7_as_43 rfl ?_
        exact ⟨rfl, rfl⟩
      · rw [if_pos c35]
        refine z_iload_1 dX7_as_38 (n := 39) rfl ?_
        refine z_goto dX7_as_39 (n := 43) (by decide) ?_
        refine z_ret_i dX7_as_43 rfl ?_
        exact ⟨rfl, rfl⟩
    · rw [if_pos (by omega)]
      refine z_bipush dX7_as_20 (n := 22) rfl (by decide) ?_
      refine z_goto dX7_as_22 (n := 43) (by decide) ?_
      refine z_ret_i dX7_as_43 rfl ?_
      exact ⟨rfl, rfl⟩
  · rw [if_pos c5]
    refine z_bipush dX7_as_8 (n := 10) rfl (by decide) ?_
    refine z_ret_i dX7_as_10 rfl ?_
    exact ⟨rfl, rfl⟩
set_option maxHeartbeats 4000000 in
theorem c_X7_codeOf {G : zG} {sz : zSz} {ar : zAr} {l : Int} (h0 : 0 ≤ l) (h1 : l < 12)  : zSem G mX7_codeOf 0 [zI l] (X sz ar) (zpi fun r u => r = cdl l ∧ u = X sz ar) := by
  refine z_enter (L' := [some (zI l)]) (by decide +kernel) (Nat.le_of_ble_eq_true rfl) ⟨0, rfl⟩ ?_
  refine z_iload_0 dX7_codeOf_0 (n := 1) rfl ?_
  refine z_iconst dX7_codeOf_1 (n := 2) rfl ?_
  refine z_irem dX7_codeOf_2 (n := 3) rfl (by omega) (by omega) (by omega) (by omega) ?_
  refine z_if_ne dX7_codeOf_3 (n := 6) (tg := 15) rfl (by decide) (by first | assumption | exact ⟨by omega, by omega⟩ | exact zb_zr _) (fun c3 => ?_) (fun c3 => ?_)
  · rw [show cdl l = 65 + l / 2 from if_pos (by omega)]
    refine z_bipush dX7_codeOf_15 (n := 17) rfl (by decide) ?_
    refine z_iload_0 dX7_codeOf_17 (n := 18) rfl ?_
    refine z_iconst dX7_codeOf_18 (n := 19) rfl ?_
    refine z_idiv dX7_codeOf_19 (n := 20) rfl (by omega) (by omega) (by omega) (by omega) ?_
    refine z_iadd dX7_codeOf_20 (n := 21) rfl ?_
    refine z_ret_i dX7_codeOf_21 rfl ?_
    exact ⟨rfl, rfl⟩
  · rw [show cdl l = 97 + l / 2 from if_neg (by omega)]
    refine z_bipush dX7_codeOf_6 (n := 8) rfl (by decide) ?_
    refine z_iload_0 dX7_codeOf_8 (n := 9) rfl ?_
    refine z_iconst dX7_codeOf_9 (n := 10) rfl ?_
    refine z_idiv dX7_codeOf_10 (n := 11) rfl (by omega) (by omega) (by omega) (by omega) ?_
    refine z_iadd dX7_codeOf_11 (n := 12) rfl ?_
    refine z_goto dX7_codeOf_12 (n := 21) (by decide) ?_
    refine z_ret_i dX7_codeOf_21 rfl ?_
    exact ⟨rfl, rfl⟩
set_option maxHeartbeats 4000000 in
theorem c_X7_sign {G : zG} {sz : zSz} {ar : zAr} {ws : Int → List Int} {w p : Int} (hw : zr w) (hp : zr p) (hC : MK ws sz ar)  : zSem G mX7_sign 1 [zR 41, zI w, zI p] (X sz ar) (zpi fun r u => u = X sz ar ∧ r = (if 0 ≤ w ∧ w < 3 ∧ 0 ≤ p ∧ p < (ws w).length then cdl ((ws w).getD p.toNat 0) else -101)) := by
  refine z_enter (L' := [some (zR 41), some (zI w), some (zI p)]) (by decide +kernel) (Nat.le_of_ble_eq_true rfl) ⟨0, rfl⟩ ?_
  obtain ⟨hM, ⟨hp0, hp1, hc⟩, hW, ⟨hs0, hs1, hof, hwh, hco⟩, hmr, hkm⟩ := hC
  have hn := hM.1
  have hn6 := hM.2.1
  refine z_iload_1 dX7_sign_0 (n := 1) rfl ?_
  refine z_iconst dX7_sign_1 (n := 2) rfl ?_
  refine z_iconst dX7_sign_2 (n := 3) rfl ?_
  refine z_callS3i dX7_sign_3 (n := 6) rfl ms_X7_within lk_X7_69 (zrm (by decide) (by decide)) (Nat.le_of_ble_eq_true rfl) (c_X7_within (by first | assumption | exact ⟨by omega, by omega⟩ | exact zb_zr _) (by first | assumption | exact ⟨by omega, by omega⟩ | exact zb_zr _) (by first | assumption | exact ⟨by omega, by omega⟩ | exact zb_zr _)) (fun r u hp => ?_)
  obtain ⟨rfl, rfl⟩ := hp
  refine z_ifB_eq dX7_sign_6 (n := 9) (tg := 25) rfl (by decide) (fun c6 => ?_) (fun c6 => ?_)
  · rw [if_neg (by omega)]
    refine z_bipush dX7_sign_25 (n := 27) rfl (by decide) ?_
    refine z_ret_i dX7_sign_27 rfl ?_
    exact ⟨rfl, rfl⟩
  · have hL := hW w c6.1 (by omega)
    have hl := hL.1.1
    refine z_iload_2 dX7_sign_9 (n := 10) rfl ?_
    refine z_iconst dX7_sign_10 (n := 11) rfl ?_
    refine z_aload_0 dX7_sign_11 (n := 12) rfl ?_
    refine z_get dX7_sign_12 (n := 15) rfl rfl fd_X7_16 rfl ?_
    refine z_iload_1 dX7_sign_15 (n := 16) rfl ?_
    refine z_iald dX7_sign_16 (n := 17) rfl rfl (by omega) (by omega) (by decide) ?_
    refine z_iconst dX7_sign_17 (n := 18) rfl ?_
    refine z_isub dX7_sign_18 (n := 19) rfl ?_
    refine z_callS3i dX7_sign_19 (n := 22) rfl ms_X7_within lk_X7_69 (zrm (by decide) (by decide)) (Nat.le_of_ble_eq_true rfl) (c_X7_within (by first | assumption | exact ⟨by omega, by omega⟩ | exact zb_zr _) (by first | assumption | exact ⟨by omega, by omega⟩ | exact zb_zr _) (by first | assumption | exact ⟨by omega, by omega⟩ | exact zb_zr _)) (fun r u hp => ?_)
    obtain ⟨rfl, rfl⟩ := hp
    refine z_ifB_ne dX7_sign_22 (n := 25) (tg := 28) rfl (by decide) (fun c22 => ?_) (fun c22 => ?_)
    · rw [if_pos (by omega)]
      have hy := hL.2.1 _ (hL.1.mem (i := p) (by omega) (by omega))
      have hg := hL.1.get (i := p) (by omega) (by omega)
      refine z_aload_0 dX7_sign_28 (n := 29) rfl ?_
      refine z_get dX7_sign_29 (n := 32) rfl rfl fd_X7_19 rfl ?_
      refine z_bipush dX7_sign_32 (n := 34) rfl (by decide) ?_
      refine z_iload_1 dX7_sign_34 (n := 35) rfl ?_
      refine z_imul dX7_sign_35 (n := 36) rfl ?_
      refine z_iload_2 dX7_sign_36 (n := 37) rfl ?_
      refine z_iadd dX7_sign_37 (n := 38) rfl ?_
      refine z_iald dX7_sign_38 (n := 39) rfl rfl (by omega) (by omega) (by decide) ?_
      refine z_callS1i dX7_sign_39 (n := 42) rfl ms_X7_codeOf lk_X7_178 (zrm (by decide) (by decide)) (Nat.le_of_ble_eq_true rfl) (c_X7_codeOf (by omega) (by omega)) (fun r u hp => ?_)
      obtain ⟨rfl, rfl⟩ := hp
      refine z_ret_i dX7_sign_42 rfl ?_
      exact ⟨rfl, by rw [← hg]⟩
    · rw [if_neg (by omega)]
      refine z_bipush dX7_sign_25 (n := 27) rfl (by decide) ?_
      refine z_ret_i dX7_sign_27 rfl ?_
      exact ⟨rfl, rfl⟩
set_option maxHeartbeats 4000000 in
theorem c_X7_isRow {G : zG} {sz : zSz} {ar : zAr} {x n m : Int} (hx : zr x) (hn : zr n) (hm0 : 0 ≤ m) (hm1 : m ≤ 12)  : zSem G mX7_isRow 1 [zI x, zI n, zI m] (X sz ar) (zpi fun r u => r = zb (0 ≤ n ∧ n ≤ m ∧ 0 ≤ x ∧ x < 2 ^ n.toNat) ∧ u = X sz ar) := by
  refine z_enter (L' := [some (zI x), some (zI n), some (zI m)]) (by decide +kernel) (Nat.le_of_ble_eq_true rfl) ⟨0, rfl⟩ ?_
  have hpp := fun (h : n ≤ 12) => p2_12 n.toNat (by omega)
  have hpo := p2_pos n.toNat
  refine z_iload_1 dX7_isRow_0 (n := 1) rfl ?_
  refine z_iconst dX7_isRow_1 (n := 2) rfl ?_
  refine z_iload_2 dX7_isRow_2 (n := 3) rfl ?_
  refine z_callS3i dX7_isRow_3 (n := 6) rfl ms_X7_within lk_X7_69 (zrm (by decide) (by decide)) (Nat.le_of_ble_eq_true rfl) (c_X7_within (by first | assumption | exact ⟨by omega, by omega⟩ | exact zb_zr _) (by first | assumption | exact ⟨by omega, by omega⟩ | exact zb_zr _) (by first | assumption | exact ⟨by omega, by omega⟩ | exact zb_zr _)) (fun r u hp => ?_)
  obtain ⟨rfl, rfl⟩ := hp
  refine z_ifB_eq dX7_isRow_6 (n := 9) (tg := 26) rfl (by decide) (fun c6 => ?_) (fun c6 => ?_)
  · refine z_iconst dX7_isRow_26 (n := 27) rfl ?_
    refine z_ret_z dX7_isRow_27 rfl (by first | exact Or.inl rfl | exact Or.inr rfl | exact zb_or _) ?_
    first | exact ⟨(zb_t (by omega)).symm, rfl⟩ | exact ⟨(zb_f (by omega)).symm, rfl⟩
  · replace hpp := hpp (by omega)
    refine z_iload_0 dX7_isRow_9 (n := 10) rfl ?_
    refine z_iconst dX7_isRow_10 (n := 11) rfl ?_
    refine z_iconst dX7_isRow_11 (n := 12) rfl ?_
    refine z_iload_1 dX7_isRow_12 (n := 13) rfl ?_
    refine z_ishl dX7_isRow_13 (n := 14) rfl (by omega) (by omega) ?_
    refine z_iconst dX7_isRow_14 (n := 15) rfl ?_
    refine z_isub dX7_isRow_15 (n := 16) rfl ?_
    rw [Int.one_mul]
    refine z_callS3i dX7_isRow_16 (n := 19) rfl ms_X7_within lk_X7_69 (zrm (by decide) (by decide)) (Nat.le_of_ble_eq_true rfl) (c_X7_within (by first | assumption | exact ⟨by omega, by omega⟩ | exact zb_zr _) (by first | assumption | exact ⟨by omega, by omega⟩ | exact zb_zr _) (by first | assumption | exact ⟨by omega, by omega⟩ | exact zb_zr _)) (fun r u hp => ?_)
    obtain ⟨rfl, rfl⟩ := hp
    refine z_ifB_eq dX7_isRow_19 (n := 22) (tg := 26) rfl (by decide) (fun c19 => ?_) (fun c19 => ?_)
    · refine z_iconst dX7_isRow_26 (n := 27) rfl ?_
      refine z_ret_z dX7_isRow_27 rfl (by first | exact Or.inl rfl | exact Or.inr rfl | exact zb_or _) ?_
      first | exact ⟨(zb_t (by omega)).symm, rfl⟩ | exact ⟨(zb_f (by omega)).symm, rfl⟩
    · refine z_iconst dX7_isRow_22 (n := 23) rfl ?_
      refine z_goto dX7_isRow_23 (n := 27) (by decide) ?_
      refine z_ret_z dX7_isRow_27 rfl (by first | exact Or.inl rfl | exact Or.inr rfl | exact zb_or _) ?_
      first | exact ⟨(zb_t (by omega)).symm, rfl⟩ | exact ⟨(zb_f (by omega)).symm, rfl⟩
set_option maxHeartbeats 4000000 in
theorem c_X7_act {G : zG} {sz : zSz} {ar : zAr} {ws : Int → List Int} {w x n : Int} (hw : zr w) (hx : zr x) (hn0 : zr n) (hC : MK ws sz ar)  : zSem G mX7_act 4 [zR 41, zI w, zI x, zI n] (X sz ar) (zpi fun r u => u = X sz ar ∧ r = (if ¬ (0 ≤ w ∧ w < 3 ∧ 0 < sz 41 0) then -101 else if ¬ (0 ≤ n ∧ n ≤ 12 ∧ 0 ≤ x ∧ x < 2 ^ n.toNat) then -102 else rwd (ar 42) (ar 43) n.toNat (ws w) x)) := by
  refine z_enter (L' := [some (zR 41), some (zI w), some (zI x), some (zI n)]) (by decide +kernel) (Nat.le_of_ble_eq_true rfl) ⟨0, rfl⟩ ?_
  have hn := hC.1.1
  have hn6 := hC.1.2.1
  refine z_aload_0 dX7_act_0 (n := 1) rfl ?_
  refine z_iload_1 dX7_act_1 (n := 2) rfl ?_
  refine z_callV1i dX7_act_2 (n := 5) rfl mv_X7_isWord lk_X7_112 rfl (zrm (by decide) (by decide)) (Nat.le_of_ble_eq_true rfl) (c_X7_isWord (by first | assumption | exact ⟨by omega, by omega⟩ | exact zb_zr _) (by first | assumption | exact ⟨by omega, by omega⟩ | exact zb_zr _)) (fun r u hp => ?_)
  obtain ⟨rfl, rfl⟩ := hp
  refine z_ifB_ne dX7_act_5 (n := 8) (tg := 11) rfl (by decide) (fun c5 => ?_) (fun c5 => ?_)
  · rw [if_neg (fun z => z c5)]
    refine z_iload_2 dX7_act_11 (n := 12) rfl ?_
    refine z_iload_3 dX7_act_12 (n := 13) rfl ?_
    refine z_bipush dX7_act_13 (n := 15) rfl (by decide) ?_
    refine z_callS3i dX7_act_15 (n := 18) rfl ms_X7_isRow lk_X7_181 (zrm (by decide) (by decide)) (Nat.le_of_ble_eq_true rfl) (c_X7_isRow (by first | assumption | exact ⟨by omega, by omega⟩ | exact zb_zr _) (by first | assumption | exact ⟨by omega, by omega⟩ | exact zb_zr _) (by omega) (by omega)) (fun r u hp => ?_)
    obtain ⟨rfl, rfl⟩ := hp
    refine z_ifB_eq dX7_act_18 (n := 21) (tg := 31) rfl (by decide) (fun c18 => ?_) (fun c18 => ?_)
    · rw [if_pos c18]
      refine z_bipush dX7_act_31 (n := 33) rfl (by decide) ?_
      refine z_ret_i dX7_act_33 rfl ?_
      exact ⟨rfl, rfl⟩
    · rw [if_neg (fun z => z c18)]
      refine z_aload_0 dX7_act_21 (n := 22) rfl ?_
      refine z_iload_1 dX7_act_22 (n := 23) rfl ?_
      refine z_iload_2 dX7_act_23 (n := 24) rfl ?_
      refine z_iload_3 dX7_act_24 (n := 25) rfl ?_
      refine z_callV3i dX7_act_25 (n := 28) rfl mv_X7_actWord lk_X7_184 rfl (zrm (by decide) (by decide)) (Nat.le_of_ble_eq_true rfl) (c_X7_actWord c5.1 c5.2.1 hC.1 (hC.2.2.1 w c5.1 c5.2.1) c18.1 c18.2.1 c18.2.2.1 c18.2.2.2) (fun r u hp => ?_)
      obtain ⟨rfl, rfl⟩ := hp
      refine z_goto dX7_act_28 (n := 33) (by decide) ?_
      refine z_ret_i dX7_act_33 rfl ?_
      exact ⟨rfl, rfl⟩
  · rw [if_pos c5]
    refine z_bipush dX7_act_8 (n := 10) rfl (by decide) ?_
    refine z_ret_i dX7_act_10 rfl ?_
    exact ⟨rfl, rfl⟩
set_option maxHeartbeats 4000000 in
theorem lo_X7_flipsOf {G : zG} {ws : Int → List Int} {sz : zSz} {ar : zAr} {w n : Int} (hC : MK ws sz ar) (h0 : 0 ≤ w) (h1 : w < 3) (hn0 : 0 ≤ n) (hn1 : n ≤ 4) :
    ∀ (m j : Nat), j + m = 2 ^ n.toNat → zWP G mX7_flipsOf 4 (zpi fun r u => u = X sz ar ∧ r = fbk (ar 42) (ar 43) n.toNat (ws w) (2 ^ n.toNat)) 5 [some (zR 41), some (zI w), some (zI n), some (zI (fbk (ar 42) (ar 43) n.toNat (ws w) j)), some (zI j)] [] (X sz ar) := by
  have e16 : ∀ k, k ≤ 4 → 2 ^ k ≤ 16 := by decide
  have h16 := e16 n.toNat (by omega)
  have ec : ((2 ^ n.toNat : Nat) : Int) = 2 ^ n.toNat := by simp
  have hpn := p2_pos n.toNat
  have h16i : (2 : Int) ^ n.toNat ≤ 16 := by rw [← ec]; omega
  have es : (2 : Int) ^ (n + 1).toNat = 2 ^ n.toNat * 2 := by rw [show (n + 1).toNat = n.toNat + 1 by omega, p2_succ]
  intro m
  induction m with
  | zero =>
    intro j hj
    have ej : j = 2 ^ n.toNat := by omega
    subst ej
    rw [ec]
    refine z_iload_4 dX7_flipsOf_5 (n := 7) rfl ?_
    refine z_iconst dX7_flipsOf_7 (n := 8) rfl ?_
    refine z_iload_2 dX7_flipsOf_8 (n := 9) rfl ?_
    refine z_ishl dX7_flipsOf_9 (n := 10) rfl (by omega) (by omega) ?_
    rw [Int.one_mul]
    refine z_icmp_ge dX7_flipsOf_10 (n := 13) (tg := 39) rfl (by decide) (by first | assumption | exact ⟨by omega, by omega⟩ | exact zb_zr _) (by first | assumption | exact ⟨by omega, by omega⟩ | exact zb_zr _) (fun c10 => ?_) (fun c10 => ?_)
    · refine z_iload_3 dX7_flipsOf_39 (n := 40) rfl ?_
      refine z_ret_i dX7_flipsOf_40 rfl ?_
      exact ⟨rfl, rfl⟩
    · exfalso; omega
  | succ m ih =>
    intro j hj
    have hr := rwd_r (ar 42) (ar 43) (n + 1).toNat (ws w) (2 * j) (by omega) (by omega)
    have hfr := fbk_r (ar 42) (ar 43) n.toNat (ws w) j
    have hp2 := p2_pos j
    have hmn : 0 ≤ rwd (ar 42) (ar 43) (n + 1).toNat (ws w) (2 * j) % 2 * 2 ^ j := Int.mul_nonneg (by omega) (by omega)
    have h9 := ih (j + 1) (by omega)
    rw [show ((j + 1 : Nat) : Int) = (j : Int) + 1 by omega, show fbk (ar 42) (ar 43) n.toNat (ws w) (j + 1) = zor (fbk (ar 42) (ar 43) n.toNat (ws w) j) (rwd (ar 42) (ar 43) (n.toNat + 1) (ws w) (2 * j) % 2 * 2 ^ j) from rfl, show n.toNat + 1 = (n + 1).toNat by omega] at h9
    refine z_iload_4 dX7_flipsOf_5 (n := 7) rfl ?_
    refine z_iconst dX7_flipsOf_7 (n := 8) rfl ?_
    refine z_iload_2 dX7_flipsOf_8 (n := 9) rfl ?_
    refine z_ishl dX7_flipsOf_9 (n := 10) rfl (by omega) (by omega) ?_
    rw [Int.one_mul]
    refine z_icmp_ge dX7_flipsOf_10 (n := 13) (tg := 39) rfl (by decide) (by first | assumption | exact ⟨by omega, by omega⟩ | exact zb_zr _) (by first | assumption | exact ⟨by omega, by omega⟩ | exact zb_zr _) (fun c10 => ?_) (fun c10 => ?_)
    · exfalso; omega
    · refine z_iload_3 dX7_flipsOf_13 (n := 14) rfl ?_
      refine z_aload_0 dX7_flipsOf_14 (n := 15) rfl ?_
      refine z_iload_1 dX7_flipsOf_15 (n := 16) rfl ?_
      refine z_iconst dX7_flipsOf_16 (n := 17) rfl ?_
      refine z_iload_4 dX7_flipsOf_17 (n := 19) rfl ?_
      refine z_imul dX7_flipsOf_19 (n := 20) rfl ?_
      refine z_iload_2 dX7_flipsOf_20 (n := 21) rfl ?_
      refine z_iconst dX7_flipsOf_21 (n := 22) rfl ?_
      refine z_iadd dX7_flipsOf_22 (n := 23) rfl ?_
      refine z_callV3i dX7_flipsOf_23 (n := 26) rfl mv_X7_actWord lk_X7_184 rfl (zrm (by decide) (by decide)) (Nat.le_of_ble_eq_true rfl) (c_X7_actWord h0 h1 hC.1 (hC.2.2.1 w h0 h1) (by omega) (by omega) (by omega) (by omega)) (fun r u hp => ?_)
      obtain ⟨rfl, rfl⟩ := hp
      refine z_iconst dX7_flipsOf_26 (n := 27) rfl ?_
      refine z_iand1 dX7_flipsOf_27 (n := 28) rfl (by omega) ?_
      refine z_iload_4 dX7_flipsOf_28 (n := 30) rfl ?_
      refine z_ishl dX7_flipsOf_30 (n := 31) rfl (by omega) (by omega) ?_
      rw [Int.toNat_natCast]
      refine z_ior dX7_flipsOf_31 (n := 32) rfl hfr.1 hmn ?_
      refine z_istore_3 dX7_flipsOf_32 (n := 33) rfl (by decide) (fun w h => by cases h; try rfl) ?_
      refine z_iinc_4 dX7_flipsOf_33 (n := 36) rfl (by decide) (fun w h => by cases h; try rfl) ?_
      refine z_goto dX7_flipsOf_36 (n := 5) (by decide) ?_
      exact h9
set_option maxHeartbeats 4000000 in
theorem c_X7_flipsOf {G : zG} {sz : zSz} {ar : zAr} {ws : Int → List Int} {w n : Int} (hC : MK ws sz ar) (h0 : 0 ≤ w) (h1 : w < 3) (hn0 : 0 ≤ n) (hn1 : n ≤ 4)  : zSem G mX7_flipsOf 4 [zR 41, zI w, zI n] (X sz ar) (zpi fun r u => u = X sz ar ∧ r = fbk (ar 42) (ar 43) n.toNat (ws w) (2 ^ n.toNat)) := by
  refine z_enter (L' := [some (zR 41), some (zI w), some (zI n), none, none]) (by decide +kernel) (Nat.le_of_ble_eq_true rfl) ⟨2, rfl⟩ ?_
  refine z_iconst dX7_flipsOf_0 (n := 1) rfl ?_
  refine z_istore_3 dX7_flipsOf_1 (n := 2) rfl (by decide) (fun w h => by cases h; try rfl) ?_
  refine z_iconst dX7_flipsOf_2 (n := 3) rfl ?_
  refine z_istore_4 dX7_flipsOf_3 (n := 5) rfl (by decide) (fun w h => by cases h; try rfl) ?_
  exact lo_X7_flipsOf hC h0 h1 hn0 hn1 (2 ^ n.toNat) 0 (by omega)
set_option maxHeartbeats 4000000 in
theorem c_X7_flips {G : zG} {sz : zSz} {ar : zAr} {ws : Int → List Int} {w n : Int} (hw : zr w) (hn0 : zr n) (hC : MK ws sz ar)  : zSem G mX7_flips 5 [zR 41, zI w, zI n] (X sz ar) (zpi fun r u => u = X sz ar ∧ r = (if ¬ (0 ≤ w ∧ w < 3 ∧ 0 < sz 41 0) then -101 else if ¬ (0 ≤ n ∧ n ≤ 4) then -102 else fbk (ar 42) (ar 43) n.toNat (ws w) (2 ^ n.toNat))) := by
  refine z_enter (L' := [some (zR 41), some (zI w), some (zI n)]) (by decide +kernel) (Nat.le_of_ble_eq_true rfl) ⟨0, rfl⟩ ?_
  have hn := hC.1.1
  have hn6 := hC.1.2.1
  refine z_aload_0 dX7_flips_0 (n := 1) rfl ?_
  refine z_iload_1 dX7_flips_1 (n := 2) rfl ?_
  refine z_callV1i dX7_flips_2 (n := 5) rfl mv_X7_isWord lk_X7_112 rfl (zrm (by decide) (by decide)) (Nat.le_of_ble_eq_true rfl) (c_X7_isWord (by first | assumption | exact ⟨by omega, by omega⟩ | exact zb_zr _) (by first | assumption | exact ⟨by omega, by omega⟩ | exact zb_zr _)) (fun r u hp => ?_)
  obtain ⟨rfl, rfl⟩ := hp
  refine z_ifB_ne dX7_flips_5 (n := 8) (tg := 11) rfl (by decide) (fun c5 => ?_) (fun c5 => ?_)
  · rw [if_neg (fun z => z c5)]
    refine z_iload_2 dX7_flips_11 (n := 12) rfl ?_
    refine z_iconst dX7_flips_12 (n := 13) rfl ?_
    refine z_iconst dX7_flips_13 (n := 14) rfl ?_
    refine z_callS3i dX7_flips_14 (n := 17) rfl ms_X7_within lk_X7_69 (zrm (by decide) (by decide)) (Nat.le_of_ble_eq_true rfl) (c_X7_within (by first | assumption | exact ⟨by omega, by omega⟩ | exact zb_zr _) (by first | assumption | exact ⟨by omega, by omega⟩ | exact zb_zr _) (by first | assumption | exact ⟨by omega, by omega⟩ | exact zb_zr _)) (fun r u hp => ?_)
    obtain ⟨rfl, rfl⟩ := hp
    refine z_ifB_eq dX7_flips_17 (n := 20) (tg := 29) rfl (by decide) (fun c17 => ?_) (fun c17 => ?_)
    · rw [if_pos c17]
      refine z_bipush dX7_flips_29 (n := 31) rfl (by decide) ?_
      refine z_ret_i dX7_flips_31 rfl ?_
      exact ⟨rfl, rfl⟩
    · rw [if_neg (fun z => z c17)]
      refine z_aload_0 dX7_flips_20 (n := 21) rfl ?_
      refine z_iload_1 dX7_flips_21 (n := 22) rfl ?_
      refine z_iload_2 dX7_flips_22 (n := 23) rfl ?_
      refine z_callV2i dX7_flips_23 (n := 26) rfl mv_X7_flipsOf lk_X7_187 rfl (zrm (by decide) (by decide)) (Nat.le_of_ble_eq_true rfl) (c_X7_flipsOf hC c5.1 c5.2.1 c17.1 c17.2) (fun r u hp => ?_)
      obtain ⟨rfl, rfl⟩ := hp
      refine z_goto dX7_flips_26 (n := 31) (by decide) ?_
      refine z_ret_i dX7_flips_31 rfl ?_
      exact ⟨rfl, rfl⟩
  · rw [if_pos c5]
    refine z_bipush dX7_flips_8 (n := 10) rfl (by decide) ?_
    refine z_ret_i dX7_flips_10 rfl ?_
    exact ⟨rfl, rfl⟩
/-! how often till a row is as it was: it always comes back -/
def rdR (f : Int → Int) (row : Int) : Nat → Int → Int → Int
  | 0, _, d => d
  | m + 1, now, d => if now = row then d else rdR f row m (f now) (d + 1)
theorem rdR_G {f : Int → Int} {row : Int} : ∀ (m : Nat) (now d : Int), rdG f row (m + 1) now d ≠ -1 → rdR f row m (f now) d = rdG f row (m + 1) now d := by
  intro m
  induction m with
  | zero =>
    intro now d h
    unfold rdG at h ⊢
    by_cases e : f now = row
    · rw [if_pos e]; rfl
    · rw [if_neg e] at h; exact absurd rfl h
  | succ m ih =>
    intro now d h
    rw [rdG] at h ⊢
    rw [rdR]
    by_cases e : f now = row
    · rw [if_pos e, if_pos e]
    · rw [if_neg e, if_neg e]
      rw [if_neg e] at h
      exact ih (f now) (d + 1) h
def itf (f : Int → Int) (x : Int) : Nat → Int
  | 0 => x
  | k + 1 => f (itf f x k)
theorem rdG_ne {f : Int → Int} {row : Int} : ∀ (m k : Nat) (d : Int), 0 ≤ d → (∃ j, k < j ∧ j ≤ k + m ∧ itf f row j = row) → rdG f row m (itf f row k) d ≠ -1 := by
  intro m
  induction m with
  | zero => intro k d _ ⟨j, a, b, _⟩; omega
  | succ m ih =>
    intro k d hd ⟨j, a, b, c⟩
    rw [rdG]
    by_cases e : f (itf f row k) = row
    · rw [if_pos e]; omega
    · rw [if_neg e]
      refine ih (k + 1) (d + 1) (by omega) ⟨j, ?_, by omega, c⟩
      by_cases e2 : j = k + 1
      · subst e2; exact absurd c e
      · omega
theorem pigeon : ∀ (N : Nat) (g : Nat → Nat), (∀ i, i ≤ N → g i < N) → ∃ i j, i < j ∧ j ≤ N ∧ g i = g j := by
  intro N
  induction N with
  | zero => intro g h; exact absurd (h 0 (Nat.le_refl 0)) (Nat.not_lt_zero _)
  | succ N ih =>
    intro g h
    by_cases hx : ∃ i, i ≤ N ∧ g i = g (N + 1)
    · obtain ⟨i, a, b⟩ := hx
      exact ⟨i, N + 1, by omega, Nat.le_refl _, b⟩
    · have hne : ∀ i, i ≤ N → g i ≠ g (N + 1) := fun i a b => hx ⟨i, a, b⟩
      obtain ⟨i, j, a, b, c⟩ := ih (fun i => if g i = N then g (N + 1) else g i) (fun i hi => by
        have h1 := h i (by omega)
        have h2 := h (N + 1) (Nat.le_refl _)
        have h3 := hne i hi
        try dsimp only
        split <;> omega)
      refine ⟨i, j, a, by omega, ?_⟩
      have h3 := hne i (by omega)
      have h4 := hne j b
      try dsimp only at c
      split at c <;> split at c <;> omega
theorem back {f : Int → Int} {N : Nat} (hr : ∀ x : Int, 0 ≤ x → x < N → 0 ≤ f x ∧ f x < N) (hi : ∀ x y : Int, 0 ≤ x → x < N → 0 ≤ y → y < N → f x = f y → x = y) {x : Int} (h0 : 0 ≤ x) (h1 : x < N) : ∃ j, 0 < j ∧ j ≤ N ∧ itf f x j = x := by
  have hb : ∀ k, 0 ≤ itf f x k ∧ itf f x k < N := by
    intro k
    induction k with
    | zero => exact ⟨h0, h1⟩
    | succ k ih => exact hr _ ih.1 ih.2
  obtain ⟨i, j, a, b, c⟩ := pigeon N (fun k => (itf f x k).toNat) (fun i _ => by have := hb i; omega)
  have key : ∀ i j, i ≤ j → itf f x i = itf f x j → itf f x (j - i) = x := by
    intro i
    induction i with
    | zero => intro j _ e; exact e.symm
    | succ i ih =>
      intro j hj e
      obtain ⟨j', rfl⟩ : ∃ j', j = j' + 1 := ⟨j - 1, by omega⟩
      rw [show j' + 1 - (i + 1) = j' - i by omega]
      exact ih j' (by omega) (hi _ _ (hb i).1 (hb i).2 (hb j').1 (hb j').2 e)
  refine ⟨j - i, by omega, by omega, key i j (by omega) ?_⟩
  have p := hb i
  have q := hb j
  try dsimp only at c
  omega
theorem rl_inj (kd nx : Int → Int) : ∀ (k : Nat) (l x y : Int), 0 ≤ x → x < 2 ^ k → 0 ≤ y → y < 2 ^ k → rl kd nx k l x = rl kd nx k l y → x = y := by
  intro k
  induction k with
  | zero => intro l x y _ _ _ _ h; exact h
  | succ k ih =>
    intro l x y hx0 hx1 hy0 hy1 h
    unfold rl at h
    by_cases e : l = -1
    · rw [if_pos e, if_pos e] at h; exact h
    · rw [if_neg e, if_neg e] at h
      have hp := p2_pos k
      have bx := half_r hx0 hx1
      have by' := half_r hy0 hy1
      have mx0 := Int.emod_nonneg x (show (2 : Int) ^ k ≠ 0 by omega)
      have mx1 := Int.emod_lt_of_pos x hp
      have my0 := Int.emod_nonneg y (show (2 : Int) ^ k ≠ 0 by omega)
      have my1 := Int.emod_lt_of_pos y hp
      have r1 := rl_r kd nx k (lb kd nx l (x / 2 ^ k)) (x % 2 ^ k) mx0 mx1
      have r2 := rl_r kd nx k (lb kd nx l (y / 2 ^ k)) (y % 2 ^ k) my0 my1
      have uni : ∀ a b u v : Int, 0 ≤ u → u < 2 ^ k → 0 ≤ v → v < 2 ^ k → a * 2 ^ k + u = b * 2 ^ k + v → a = b ∧ u = v := by
        intro a b u v u0 u1 v0 v1 e
        have d1 : (a * 2 ^ k + u) / 2 ^ k = a := by rw [Int.add_comm, Int.add_mul_ediv_right _ _ (by omega), Int.ediv_eq_zero_of_lt u0 u1, Int.zero_add]
        have d2 : (b * 2 ^ k + v) / 2 ^ k = b := by rw [Int.add_comm, Int.add_mul_ediv_right _ _ (by omega), Int.ediv_eq_zero_of_lt v0 v1, Int.zero_add]
        have hab : a = b := by rw [← d1, ← d2, e]
        subst hab
        exact ⟨rfl, by omega⟩
      obtain ⟨f1, f2⟩ := uni _ _ _ _ r1.1 r1.2 r2.1 r2.2 h
      have hh : x / 2 ^ k = y / 2 ^ k := by
        unfold fb at f1
        split at f1 <;> omega
      rw [hh] at f2
      have hm := ih _ _ _ mx0 mx1 my0 my1 f2
      have d1 := Int.mul_ediv_add_emod x (2 ^ k)
      have d2 := Int.mul_ediv_add_emod y (2 ^ k)
      rw [← d1, ← d2, hh, hm]
theorem rwd_inj (kd nx : Int → Int) (k : Nat) : ∀ (xs : List Int) (x y : Int), 0 ≤ x → x < 2 ^ k → 0 ≤ y → y < 2 ^ k → rwd kd nx k xs x = rwd kd nx k xs y → x = y := by
  intro xs
  induction xs with
  | nil => intro x y _ _ _ _ h; exact h
  | cons a t ih =>
    intro x y hx0 hx1 hy0 hy1 h
    have r1 := rl_r kd nx k a x hx0 hx1
    have r2 := rl_r kd nx k a y hy0 hy1
    exact rl_inj kd nx k a x y hx0 hx1 hy0 hy1 (ih _ _ r1.1 r1.2 r2.1 r2.2 h)
theorem round_eq (kd nx : Int → Int) {k : Nat} (hk : k ≤ 8) (xs : List Int) {x : Int} (h0 : 0 ≤ x) (h1 : x < 2 ^ k) : rdR (rwd kd nx k xs) x 255 (rwd kd nx k xs x) 1 = rdG (rwd kd nx k xs) x 256 x 1 := by
  have ec : ((2 ^ k : Nat) : Int) = 2 ^ k := by simp
  have h256 : ∀ k, k ≤ 8 → 2 ^ k ≤ 256 := by decide
  obtain ⟨j, a, b, c⟩ := back (f := rwd kd nx k xs) (N := 2 ^ k) (fun y y0 y1 => by rw [ec] at y1 ⊢; exact rwd_r kd nx k xs y y0 y1) (fun y z y0 y1 z0 z1 e => by rw [ec] at y1 z1; exact rwd_inj kd nx k xs y z y0 y1 z0 z1 e) h0 (by rw [ec]; exact h1)
  have h2 := h256 k hk
  exact rdR_G 255 x 1 (rdG_ne 256 0 1 (by omega) ⟨j, a, by omega, c⟩)
set_option maxHeartbeats 4000000 in
theorem c_X7_roundOf {G : zG} {sz : zSz} {ar : zAr} {ws : Int → List Int} {w x n : Int} (hC : MK ws sz ar) (h0 : 0 ≤ w) (h1 : w < 3) (hn0 : 0 ≤ n) (hn1 : n ≤ 8) (hx0 : 0 ≤ x) (hx1 : x < 2 ^ n.toNat)  : zSem G mX7_roundOf 4 [zR 41, zI w, zI x, zI n] (X sz ar) (zpi fun r u => u = X sz ar ∧ r = rdG (rwd (ar 42) (ar 43) n.toNat (ws w)) x 256 x 1) := by
  refine z_enter (L' := [some (zR 41), some (zI w), some (zI x), some (zI n), none, none]) (by decide +kernel) (Nat.le_of_ble_eq_true rfl) ⟨2, rfl⟩ ?_
  rw [← round_eq (ar 42) (ar 43) (k := n.toNat) (by omega) (ws w) hx0 hx1]
  have hpp := p2_12 n.toNat (by omega)
  have HO : ∀ (m : Nat) (d now : Int), 1 ≤ d → d + m = 256 → 0 ≤ now → now < 2 ^ n.toNat → zWP G mX7_roundOf 4 (zpi fun r u => u = X sz ar ∧ r = rdR (rwd (ar 42) (ar 43) n.toNat (ws w)) x m now d) 12 [some (zR 41), some (zI w), some (zI x), some (zI n), some (zI now), some (zI d)] [] (X sz ar) := by
    intro m
    induction m with
    | zero =>
      intro d now hd0 hd hr0 hr1
      refine z_iload_4 dX7_roundOf_12 (n := 14) rfl ?_
      refine z_iload_2 dX7_roundOf_14 (n := 15) rfl ?_
      refine z_icmp_eq dX7_roundOf_15 (n := 18) (tg := 42) rfl (by decide) (by first | assumption | exact ⟨by omega, by omega⟩ | exact zb_zr _) (by first | assumption | exact ⟨by omega, by omega⟩ | exact zb_zr _) (fun c15 => ?_) (fun c15 => ?_)
      · refine z_iload_5 dX7_roundOf_42 (n := 44) rfl ?_
        refine z_ret_i dX7_roundOf_44 rfl ?_
        exact ⟨rfl, rfl⟩
      · refine z_iload_5 dX7_roundOf_18 (n := 20) rfl ?_
        refine z_sipush dX7_roundOf_20 (n := 23) rfl (by decide) ?_
        refine z_icmp_ge dX7_roundOf_23 (n := 26) (tg := 42) rfl (by decide) (by first | assumption | exact ⟨by omega, by omega⟩ | exact zb_zr _) (by first | assumption | exact ⟨by omega, by omega⟩ | exact zb_zr _) (fun c23 => ?_) (fun c23 => ?_)
        · refine z_iload_5 dX7_roundOf_42 (n := 44) rfl ?_
          refine z_ret_i dX7_roundOf_44 rfl ?_
          exact ⟨rfl, rfl⟩
        · exfalso; omega
    | succ m ih =>
      intro d now hd0 hd hr0 hr1
      have hr := rwd_r (ar 42) (ar 43) n.toNat (ws w) now hr0 hr1
      have h9 := ih (d + 1) _ (by omega) (by omega) hr.1 hr.2
      refine z_iload_4 dX7_roundOf_12 (n := 14) rfl ?_
      refine z_iload_2 dX7_roundOf_14 (n := 15) rfl ?_
      refine z_icmp_eq dX7_roundOf_15 (n := 18) (tg := 42) rfl (by decide) (by first | assumption | exact ⟨by omega, by omega⟩ | exact zb_zr _) (by first | assumption | exact ⟨by omega, by omega⟩ | exact zb_zr _) (fun c15 => ?_) (fun c15 => ?_)
      · refine z_iload_5 dX7_roundOf_42 (n := 44) rfl ?_
        refine z_ret_i dX7_roundOf_44 rfl ?_
        exact ⟨rfl, by rw [rdR, if_pos c15]⟩
      · refine z_iload_5 dX7_roundOf_18 (n := 20) rfl ?_
        refine z_sipush dX7_roundOf_20 (n := 23) rfl (by decide) ?_
        refine z_icmp_ge dX7_roundOf_23 (n := 26) (tg := 42) rfl (by decide) (by first | assumption | exact ⟨by omega, by omega⟩ | exact zb_zr _) (by first | assumption | exact ⟨by omega, by omega⟩ | exact zb_zr _) (fun c23 => ?_) (fun c23 => ?_)
        · exfalso; omega
        · refine z_aload_0 dX7_roundOf_26 (n := 27) rfl ?_
          refine z_iload_1 dX7_roundOf_27 (n := 28) rfl ?_
          refine z_iload_4 dX7_roundOf_28 (n := 30) rfl ?_
          refine z_iload_3 dX7_roundOf_30 (n := 31) rfl ?_
          refine z_callV3i dX7_roundOf_31 (n := 34) rfl mv_X7_actWord lk_X7_184 rfl (zrm (by decide) (by decide)) (Nat.le_of_ble_eq_true rfl) (c_X7_actWord h0 h1 hC.1 (hC.2.2.1 w h0 h1) hn0 (by omega) hr0 hr1) (fun r u hp => ?_)
          obtain ⟨rfl, rfl⟩ := hp
          refine z_istore_4 dX7_roundOf_34 (n := 36) rfl (by decide) (fun w h => by cases h; try rfl) ?_
          refine z_iinc_5 dX7_roundOf_36 (n := 39) rfl (by decide) (fun w h => by cases h; try rfl) ?_
          refine z_goto dX7_roundOf_39 (n := 12) (by decide) ?_
          rw [rdR, if_neg c15]
          exact h9
  have hr := rwd_r (ar 42) (ar 43) n.toNat (ws w) x hx0 hx1
  refine z_aload_0 dX7_roundOf_0 (n := 1) rfl ?_
  refine z_iload_1 dX7_roundOf_1 (n := 2) rfl ?_
  refine z_iload_2 dX7_roundOf_2 (n := 3) rfl ?_
  refine z_iload_3 dX7_roundOf_3 (n := 4) rfl ?_
  refine z_callV3i dX7_roundOf_4 (n := 7) rfl mv_X7_actWord lk_X7_184 rfl (zrm (by decide) (by decide)) (Nat.le_of_ble_eq_true rfl) (c_X7_actWord h0 h1 hC.1 (hC.2.2.1 w h0 h1) hn0 (by omega) hx0 hx1) (fun r u hp => ?_)
  obtain ⟨rfl, rfl⟩ := hp
  refine z_istore_4 dX7_roundOf_7 (n := 9) rfl (by decide) (fun w h => by cases h; try rfl) ?_
  refine z_iconst dX7_roundOf_9 (n := 10) rfl ?_
  refine z_istore_5 dX7_roundOf_10 (n := 12) rfl (by decide) (fun w h => by cases h; try rfl) ?_
  exact HO 255 1 _ (by omega) (by omega) hr.1 hr.2
set_option maxHeartbeats 4000000 in
theorem c_X7_round {G : zG} {sz : zSz} {ar : zAr} {ws : Int → List Int} {w x n : Int} (hw : zr w) (hx : zr x) (hn0 : zr n) (hC : MK ws sz ar)  : zSem G mX7_round 5 [zR 41, zI w, zI x, zI n] (X sz ar) (zpi fun r u => u = X sz ar ∧ r = (if ¬ (0 ≤ w ∧ w < 3 ∧ 0 < sz 41 0) then -101 else if ¬ (0 ≤ n ∧ n ≤ 8 ∧ 0 ≤ x ∧ x < 2 ^ n.toNat) then -102 else rdG (rwd (ar 42) (ar 43) n.toNat (ws w)) x 256 x 1)) := by
  refine z_enter (L' := [some (zR 41), some (zI w), some (zI x), some (zI n)]) (by decide +kernel) (Nat.le_of_ble_eq_true rfl) ⟨0, rfl⟩ ?_
  have hn := hC.1.1
  have hn6 := hC.1.2.1
  refine z_aload_0 dX7_round_0 (n := 1) rfl ?_
  refine z_iload_1 dX7_round_1 (n := 2) rfl ?_
  refine z_callV1i dX7_round_2 (n := 5) rfl mv_X7_isWord lk_X7_112 rfl (zrm (by decide) (by decide)) (Nat.le_of_ble_eq_true rfl) (c_X7_isWord (by first | assumption | exact ⟨by omega, by omega⟩ | exact zb_zr _) (by first | assumption | exact ⟨by omega, by omega⟩ | exact zb_zr _)) (fun r u hp => ?_)
  obtain ⟨rfl, rfl⟩ := hp
  refine z_ifB_ne dX7_round_5 (n := 8) (tg := 11) rfl (by decide) (fun c5 => ?_) (fun c5 => ?_)
  · rw [if_neg (fun z => z c5)]
    refine z_iload_2 dX7_round_11 (n := 12) rfl ?_
    refine z_iload_3 dX7_round_12 (n := 13) rfl ?_
    refine z_bipush dX7_round_13 (n := 15) rfl (by decide) ?_
    refine z_callS3i dX7_round_15 (n := 18) rfl ms_X7_isRow lk_X7_181 (zrm (by decide) (by decide)) (Nat.le_of_ble_eq_true rfl) (c_X7_isRow (by first | assumption | exact ⟨by omega, by omega⟩ | exact zb_zr _) (by first | assumption | exact ⟨by omega, by omega⟩ | exact zb_zr _) (by omega) (by omega)) (fun r u hp => ?_)
    obtain ⟨rfl, rfl⟩ := hp
    refine z_ifB_eq dX7_round_18 (n := 21) (tg := 31) rfl (by decide) (fun c18 => ?_) (fun c18 => ?_)
    · rw [if_pos c18]
      refine z_bipush dX7_round_31 (n := 33) rfl (by decide) ?_
      refine z_ret_i dX7_round_33 rfl ?_
      exact ⟨rfl, rfl⟩
    · rw [if_neg (fun z => z c18)]
      refine z_aload_0 dX7_round_21 (n := 22) rfl ?_
      refine z_iload_1 dX7_round_22 (n := 23) rfl ?_
      refine z_iload_2 dX7_round_23 (n := 24) rfl ?_
      refine z_iload_3 dX7_round_24 (n := 25) rfl ?_
      refine z_callV3i dX7_round_25 (n := 28) rfl mv_X7_roundOf lk_X7_190 rfl (zrm (by decide) (by decide)) (Nat.le_of_ble_eq_true rfl) (c_X7_roundOf hC c5.1 c5.2.1 c18.1 c18.2.1 c18.2.2.1 c18.2.2.2) (fun r u hp => ?_)
      obtain ⟨rfl, rfl⟩ := hp
      refine z_goto dX7_round_28 (n := 33) (by decide) ?_
      refine z_ret_i dX7_round_33 rfl ?_
      exact ⟨rfl, rfl⟩
  · rw [if_pos c5]
    refine z_bipush dX7_round_8 (n := 10) rfl (by decide) ?_
    refine z_ret_i dX7_round_10 rfl ?_
    exact ⟨rfl, rfl⟩
