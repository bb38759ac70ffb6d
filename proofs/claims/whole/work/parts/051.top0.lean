/-! TreeActs: what its public methods use -/
section ZU
variable {G : zG} {M : zM} {B : Room × Nat × Nat} {Q : List Frame → Array Value → State → State → Prop} {pc n : Nat} {L : List (Option zV)} {stk : List zV} {st : zS}
def ushG (a b : Int) : Int := ((Int32.ofInt a).toUInt32 >>> ((Int32.ofInt b).toUInt32 &&& Int32.toUInt32 31)).toInt32.toInt
def andG (a b : Int) : Int := (Int32.ofInt a &&& Int32.ofInt b).toInt
theorem z_iushrG {a b : Int} (hd : decode M.2.1 pc = .ok (.iushr, 1)) (hn : pc + 1 = n) (k : zW G M B Q n L (zI (ushG a b) :: stk) st) : zW G M B Q pc L (zI b :: zI a :: stk) st := by
  intro p l e s m args below meth c H locs ls F J P S hl
  have k := k p l e s m args below meth c H locs ls F J P S hl
  subst hn
  have e2 : (zc G (zI (ushG a b))) = .int ((Int32.ofInt a).toUInt32 >>> ((Int32.ofInt b).toUInt32 &&& Int32.toUInt32 31)).toInt32 := by
    show Value.int (Int32.ofInt (ushG a b)) = _
    unfold ushG
    rw [Int32.ofInt_toInt]
  rw [List.map_cons, e2] at k
  first | exact lv_iushr F.1 F.2.1 hd k | exact lv_iushr F.1 F.2.1 hd rfl k
end ZU
/-! Integer.bitCount, of 0 to 31 -/
def bc1 (x : Int) : Int := x - andG (ushG x 1) 1431655765
def bc2 (x : Int) : Int := andG x 858993459 + andG (ushG x 2) 858993459
def bc3 (x : Int) : Int := andG (x + ushG x 4) 252645135
def bc4 (x : Int) : Int := x + ushG x 8
def bc5 (x : Int) : Int := x + ushG x 16
theorem bc_all : ∀ k : Nat, k < 32 → andG (bc5 (bc4 (bc3 (bc2 (bc1 k))))) 63 = pcn k := by decide +kernel
set_option maxHeartbeats 4000000 in
theorem c_J6_bitCount {G : zG} {sz : zSz} {ar : zAr} {x : Int} (h0 : 0 ≤ x) (h1 : x < 32)  : zSem G mJ6_bitCount_0f7a4 0 [zI x] (X sz ar) (zpi fun r u => r = pcn x ∧ u = X sz ar) := by
  refine z_enter (L' := [some (zI x)]) (by decide +kernel) (Nat.le_of_ble_eq_true rfl) ⟨0, rfl⟩ ?_
  have hb : andG (bc5 (bc4 (bc3 (bc2 (bc1 x))))) 63 = pcn x := by
    obtain ⟨k, rfl⟩ := Int.eq_ofNat_of_zero_le h0
    exact bc_all k (by omega)
  refine z_iload_0 dJ6_bitCount_0f7a4_0 (n := 1) rfl ?_
  refine z_iload_0 dJ6_bitCount_0f7a4_1 (n := 2) rfl ?_
  refine z_iconst dJ6_bitCount_0f7a4_2 (n := 3) rfl ?_
  refine z_iushrG dJ6_bitCount_0f7a4_3 (n := 4) rfl ?_
  refine z_ldcw dJ6_bitCount_0f7a4_4 (n := 7) rfl kn_J6_265 ?_
  refine z_iandG dJ6_bitCount_0f7a4_7 (n := 8) rfl ?_
  refine z_isub dJ6_bitCount_0f7a4_8 (n := 9) rfl ?_
  refine z_istore_0 dJ6_bitCount_0f7a4_9 (n := 10) rfl (by decide) ?_
  show zWP G _ _ _ 10 [some (zI (bc1 x))] [] _
  refine z_iload_0 dJ6_bitCount_0f7a4_10 (n := 11) rfl ?_
  refine z_ldcw dJ6_bitCount_0f7a4_11 (n := 14) rfl kn_J6_266 ?_
  refine z_iandG dJ6_bitCount_0f7a4_14 (n := 15) rfl ?_
  refine z_iload_0 dJ6_bitCount_0f7a4_15 (n := 16) rfl ?_
  refine z_iconst dJ6_bitCount_0f7a4_16 (n := 17) rfl ?_
  refine z_iushrG dJ6_bitCount_0f7a4_17 (n := 18) rfl ?_
  refine z_ldcw dJ6_bitCount_0f7a4_18 (n := 21) rfl kn_J6_266 ?_
  refine z_iandG dJ6_bitCount_0f7a4_21 (n := 22) rfl ?_
  refine z_iadd dJ6_bitCount_0f7a4_22 (n := 23) rfl ?_
  refine z_istore_0 dJ6_bitCount_0f7a4_23 (n := 24) rfl (by decide) ?_
  show zWP G _ _ _ 24 [some (zI (bc2 (bc1 x)))] [] _
  refine z_iload_0 dJ6_bitCount_0f7a4_24 (n := 25) rfl ?_
  refine z_iload_0 dJ6_bitCount_0f7a4_25 (n := 26) rfl ?_
  refine z_iconst dJ6_bitCount_0f7a4_26 (n := 27) rfl ?_
  refine z_iushrG dJ6_bitCount_0f7a4_27 (n := 28) rfl ?_
  refine z_iadd dJ6_bitCount_0f7a4_28 (n := 29) rfl ?_
  refine z_ldcw dJ6_bitCount_0f7a4_29 (n := 32) rfl kn_J6_267 ?_
  refine z_iandG dJ6_bitCount_0f7a4_32 (n := 33) rfl ?_
  refine z_istore_0 dJ6_bitCount_0f7a4_33 (n := 34) rfl (by decide) ?_
  show zWP G _ _ _ 34 [some (zI (bc3 (bc2 (bc1 x))))] [] _
  refine z_iload_0 dJ6_bitCount_0f7a4_34 (n := 35) rfl ?_
  refine z_iload_0 dJ6_bitCount_0f7a4_35 (n := 36) rfl ?_
  refine z_bipush dJ6_bitCount_0f7a4_36 (n := 38) rfl (by decide) ?_
  refine z_iushrG dJ6_bitCount_0f7a4_38 (n := 39) rfl ?_
  refine z_iadd dJ6_bitCount_0f7a4_39 (n := 40) rfl ?_
  refine z_istore_0 dJ6_bitCount_0f7a4_40 (n := 41) rfl (by decide) ?_
  show zWP G _ _ _ 41 [some (zI (bc4 (bc3 (bc2 (bc1 x)))))] [] _
  refine z_iload_0 dJ6_bitCount_0f7a4_41 (n := 42) rfl ?_
  refine z_iload_0 dJ6_bitCount_0f7a4_42 (n := 43) rfl ?_
  refine z_bipush dJ6_bitCount_0f7a4_43 (n := 45) rfl (by decide) ?_
  refine z_iushrG dJ6_bitCount_0f7a4_45 (n := 46) rfl ?_
  refine z_iadd dJ6_bitCount_0f7a4_46 (n := 47) rfl ?_
  refine z_istore_0 dJ6_bitCount_0f7a4_47 (n := 48) rfl (by decide) ?_
  show zWP G _ _ _ 48 [some (zI (bc5 (bc4 (bc3 (bc2 (bc1 x))))))] [] _
  refine z_iload_0 dJ6_bitCount_0f7a4_48 (n := 49) rfl ?_
  refine z_bipush dJ6_bitCount_0f7a4_49 (n := 51) rfl (by decide) ?_
  refine z_iandG dJ6_bitCount_0f7a4_51 (n := 52) rfl ?_
  refine z_ret_i dJ6_bitCount_0f7a4_52 rfl ?_
  exact ⟨hb, rfl⟩
theorem yJ9_max_eq : yJ9_max_7cf53 = Lib.Math.max.name := by decide +kernel
theorem yJ9_min_eq : yJ9_min_7cf53 = Lib.Math.min.name := by decide +kernel
theorem cJ9_max_eq : zcode mJ9_max_7cf53 = Cond.code Lib.Math.max.name Lib.Math.max.code 2 (some .int) := by decide +kernel
theorem cJ9_min_eq : zcode mJ9_min_7cf53 = Cond.code Lib.Math.min.name Lib.Math.min.code 2 (some .int) := by decide +kernel
section ZMM
variable {G : zG} {M : zM} {B : Room × Nat × Nat} {Q : List Frame → Array Value → State → State → Prop} {pc n : Nat} {L : List (Option zV)} {stk : List zV} {st : zS}
theorem z_mmax {a b : Int} {ix : Nat} (hd : decode M.2.1 pc = .ok (.invokestatic ix, 3)) (hn : pc + 3 = n) (hl : Cond.methodLink M.1.cls ix yJ9_max_7cf53 ∈ zT) (ha : zr a) (hb0 : zr b) (hr1 : 1 ≤ B.1.frames) (hr2 : (stk.map zcat).sum + 13 ≤ B.1.locals) (hr3 : B.2.1 ≤ B.1.cells) (hr4 : B.2.2 ≤ B.1.slots) (k : zW G M B Q n L (zI (if a < b then b else a) :: stk) st) : zW G M B Q pc L (zI b :: zI a :: stk) st := by
  intro p l e s m args below meth c H locs ls F J P S hls
  have k := k p l e s m args below meth c H locs ls F J P S hls
  obtain ⟨hx, hb, hr, hml, hown, hts, hlocks, hK, hI, hZ⟩ := F
  subst hn
  refine va_mmax hx hb (hml.trans hls.1.symm) hown (hts _ (by rw [← yJ9_max_eq]; exact hl)) (hts _ (by rw [← yJ9_max_eq]; exact ms_J9_max_7cf53.2)) (hts _ ini_RJ9) (hts _ (by rw [← cJ9_max_eq]; exact co_J9_max_7cf53)) hr1 (by rw [zcats]; exact hr2) hr3 hr4 hd ?_
  have e2 : (if Int32.ofInt a < Int32.ofInt b then Int32.ofInt b else Int32.ofInt a) = Int32.ofInt (if a < b then b else a) := by
    by_cases h : a < b
    · rw [if_pos h, if_pos ((za_lt ha hb0).mpr h)]
    · rw [if_neg h, if_neg (fun z => h ((za_lt ha hb0).mp z))]
  rw [e2]
  exact k
theorem z_mmin {a b : Int} {ix : Nat} (hd : decode M.2.1 pc = .ok (.invokestatic ix, 3)) (hn : pc + 3 = n) (hl : Cond.methodLink M.1.cls ix yJ9_min_7cf53 ∈ zT) (ha : zr a) (hb0 : zr b) (hr1 : 1 ≤ B.1.frames) (hr2 : (stk.map zcat).sum + 13 ≤ B.1.locals) (hr3 : B.2.1 ≤ B.1.cells) (hr4 : B.2.2 ≤ B.1.slots) (k : zW G M B Q n L (zI (if a ≤ b then a else b) :: stk) st) : zW G M B Q pc L (zI b :: zI a :: stk) st := by
  intro p l e s m args below meth c H locs ls F J P S hls
  have k := k p l e s m args below meth c H locs ls F J P S hls
  obtain ⟨hx, hb, hr, hml, hown, hts, hlocks, hK, hI, hZ⟩ := F
  subst hn
  refine va_mmin hx hb (hml.trans hls.1.symm) hown (hts _ (by rw [← yJ9_min_eq]; exact hl)) (hts _ (by rw [← yJ9_min_eq]; exact ms_J9_min_7cf53.2)) (hts _ ini_RJ9) (hts _ (by rw [← cJ9_min_eq]; exact co_J9_min_7cf53)) hr1 (by rw [zcats]; exact hr2) hr3 hr4 hd ?_
  have key : ∀ z : Int32, z = Int32.ofInt (if a ≤ b then a else b) → W p l e B.1 s m args below meth c H locs B.2.1 B.2.2 (Q below args s) (F0 m (pc + 3) ls (.int z :: stk.map (zc G))) := fun z hz => by rw [hz]; exact k
  refine key _ ?_
  by_cases h : a ≤ b
  · rw [if_pos h]
    first | rw [if_pos ((za_le ha hb0).mpr h)] | rw [if_neg (fun z => by have := (za_lt hb0 ha).mp z; omega)] | (by_cases h2 : a = b; (subst h2; simp); (rw [if_pos ((za_lt ha hb0).mpr (by omega))]))
  · rw [if_neg h]
    first | rw [if_neg (fun z => h ((za_le ha hb0).mp z))] | rw [if_pos ((za_lt hb0 ha).mpr (by omega))] | rw [if_neg (fun z => by have := (za_lt ha hb0).mp z; omega)]
end ZMM
theorem pcn_r {x : Int} (h0 : 0 ≤ x) : 0 ≤ pcn x ∧ pcn x ≤ 5 := by unfold pcn; omega
theorem lft_r {v q : Int} (h0 : 0 ≤ v) : lft v q ≤ 5 ∧ -5 ≤ lft v q := by
  have a := pcn_r h0
  have b := pcn_r (zand_0 v (zsy q))
  unfold lft
  split <;> omega
def bqI (v : Int) : Nat → Int × Int
  | 0 => (-1, 6)
  | i + 1 => bqS v (bqI v i) i
theorem bqI_4 {v : Int} (h : 0 ≤ v) (hv : v ≠ 0) : (bqI v 4).1 = bq v := by
  have := lft_r (q := 0) h
  have e : bqI v 1 = (0, lft v 0) := if_pos (show lft v 0 < 6 by omega)
  unfold bq
  rw [if_neg hv, ← e]
  rfl
theorem bqI_r {v : Int} (h : 0 ≤ v) : ∀ i, -5 ≤ (bqI v i).2 ∧ (bqI v i).2 ≤ 6 := by
  intro i
  induction i with
  | zero => exact ⟨show (-5 : Int) ≤ 6 by decide, show (6 : Int) ≤ 6 by decide⟩
  | succ i ih =>
    have := lft_r (q := i) h
    show -5 ≤ (bqS v (bqI v i) i).2 ∧ (bqS v (bqI v i) i).2 ≤ 6
    unfold bqS
    split
    · dsimp only; omega
    · exact ih
set_option maxHeartbeats 4000000 in
theorem c_X6_bestQuestion {G : zG} {sz : zSz} {ar : zAr} {v : Int} (h0 : 0 ≤ v) (h1 : v < 32)  : zSem G mX6_bestQuestion 1 [zI v] (X sz ar) (zpi fun r u => r = bq v ∧ u = X sz ar) := by
  refine z_enter (L' := [some (zI v), none, none, none, none, none, none]) (by decide +kernel) (Nat.le_of_ble_eq_true rfl) ⟨6, rfl⟩ ?_
  have HO : v ≠ 0 → ∀ (m i : Nat) (a b c : Option zV), (∀ w, a = some w → zcat w = 1) → (∀ w, b = some w → zcat w = 1) → i + m = 4 → zWP G mX6_bestQuestion 1 (zpi fun r u => r = bq v ∧ u = X sz ar) 13 [some (zI v), some (zI (bqI v i).1), some (zI (bqI v i).2), some (zI i), a, b, c] [] (X sz ar) := by
    intro hv m
    induction m with
    | zero =>
      intro i a b c ca cb hi
      have ei : i = 4 := by omega
      subst ei
      refine z_iload_3 dX6_bestQuestion_13 (n := 14) rfl ?_
      refine z_iconst dX6_bestQuestion_14 (n := 15) rfl ?_
      refine z_icmp_ge dX6_bestQuestion_15 (n := 18) (tg := 65) rfl (by decide) (by first | assumption | exact ⟨by omega, by omega⟩ | exact zb_zr _) (by first | assumption | exact ⟨by omega, by omega⟩ | exact zb_zr _) (fun c15 => ?_) (fun c15 => ?_)
      · refine z_iload_1 dX6_bestQuestion_65 (n := 66) rfl ?_
        refine z_ret_i dX6_bestQuestion_66 rfl ?_
        exact ⟨bqI_4 h0 hv, rfl⟩
      · exfalso; omega
    | succ m ih =>
      intro i a b c ca cb hi
      have hsy := zsy_r i
      have hz0 := zand_0 v (zsy i)
      have hz1 := zand_le (b := zsy i) h0
      have hp1 := pcn_r h0
      have hp2 := pcn_r hz0
      have hl := lft_r (q := i) h0
      have hr := bqI_r h0 i
      have h9 := ih (i + 1) (some (zI (pcn (zand v (zsy i))))) (some (zI (pcn v - pcn (zand v (zsy i))))) (some (zI (lft v i))) (fun w h => by cases h; rfl) (fun w h => by cases h; rfl) (by omega)
      rw [show ((i + 1 : Nat) : Int) = (i : Int) + 1 by omega] at h9
      refine z_iload_3 dX6_bestQuestion_13 (n := 14) rfl ?_
      refine z_iconst dX6_bestQuestion_14 (n := 15) rfl ?_
      refine z_icmp_ge dX6_bestQuestion_15 (n := 18) (tg := 65) rfl (by decide) (by first | assumption | exact ⟨by omega, by omega⟩ | exact zb_zr _) (by first | assumption | exact ⟨by omega, by omega⟩ | exact zb_zr _) (fun c15 => ?_) (fun c15 => ?_)
      · exfalso; omega
      · refine z_iload_0 dX6_bestQuestion_18 (n := 19) rfl ?_
        refine z_gets dX6_bestQuestion_19 (n := 22) rfl fs_X6_191 ?_
        refine z_iload_3 dX6_bestQuestion_22 (n := 23) rfl ?_
        refine z_sald dX6_bestQuestion_23 (n := 24) rfl (by omega) (by omega) ?_
        refine z_iand dX6_bestQuestion_24 (n := 25) rfl h0 hsy.1 ?_
        refine z_callS1i dX6_bestQuestion_25 (n := 28) rfl ms_J6_bitCount_0f7a4 lk_X6_262 (zrm (by decide) (by decide)) (Nat.le_of_ble_eq_true rfl) (c_J6_bitCount (by omega) (by omega)) (fun r u hp => ?_)
        obtain ⟨rfl, rfl⟩ := hp
        refine z_istore_4 dX6_bestQuestion_28 (n := 30) rfl (by decide) (fun w h => by cases h; try rfl) ?_
        refine z_iload_0 dX6_bestQuestion_30 (n := 31) rfl ?_
        refine z_callS1i dX6_bestQuestion_31 (n := 34) rfl ms_J6_bitCount_0f7a4 lk_X6_262 (zrm (by decide) (by decide)) (Nat.le_of_ble_eq_true rfl) (c_J6_bitCount (by omega) (by omega)) (fun r u hp => ?_)
        obtain ⟨rfl, rfl⟩ := hp
        refine z_iload_4 dX6_bestQuestion_34 (n := 36) rfl ?_
        refine z_isub dX6_bestQuestion_36 (n := 37) rfl ?_
        refine z_istore_5 dX6_bestQuestion_37 (n := 39) rfl (by decide) (fun w h => by cases h; try rfl) ?_
        refine z_iload_4 dX6_bestQuestion_39 (n := 41) rfl ?_
        refine z_iload_5 dX6_bestQuestion_41 (n := 43) rfl ?_
        refine z_mmax dX6_bestQuestion_43 (n := 46) rfl lk_X6_267 (by first | assumption | exact ⟨by omega, by omega⟩ | exact zb_zr _) (by first | assumption | exact ⟨by omega, by omega⟩ | exact zb_zr _) (by decide) (Nat.le_of_ble_eq_true rfl) (by decide) (by decide) ?_
        rw [show (if pcn (zand v (zsy i)) < pcn v - pcn (zand v (zsy i)) then pcn v - pcn (zand v (zsy i)) else pcn (zand v (zsy i))) = lft v i from rfl]
        refine z_istore_6 dX6_bestQuestion_46 (n := 48) rfl (by decide) (fun w h => by cases h; try rfl) ?_
        refine z_iload_6 dX6_bestQuestion_48 (n := 50) rfl ?_
        refine z_iload_2 dX6_bestQuestion_50 (n := 51) rfl ?_
        refine z_icmp_ge dX6_bestQuestion_51 (n := 54) (tg := 59) rfl (by decide) (by first | assumption | exact ⟨by omega, by omega⟩ | exact zb_zr _) (by first | assumption | exact ⟨by omega, by omega⟩ | exact zb_zr _) (fun c51 => ?_) (fun c51 => ?_)
        · rw [show bqI v (i + 1) = bqI v i from if_neg (by omega)] at h9
          refine z_iinc_3 dX6_bestQuestion_59 (n := 62) rfl (by decide) (fun w h => by cases h; try rfl) ?_
          refine z_goto dX6_bestQuestion_62 (n := 13) (by decide) ?_
          exact h9
        · rw [show bqI v (i + 1) = ((i : Int), lft v i) from if_pos c51] at h9
          refine z_iload_3 dX6_bestQuestion_54 (n := 55) rfl ?_
          refine z_istore_1 dX6_bestQuestion_55 (n := 56) rfl (by decide) (fun w h => by cases h; try rfl) ?_
          refine z_iload_6 dX6_bestQuestion_56 (n := 58) rfl ?_
          refine z_istore_2 dX6_bestQuestion_58 (n := 59) rfl (by decide) (fun w h => by cases h; try rfl) ?_
          refine z_iinc_3 dX6_bestQuestion_59 (n := 62) rfl (by decide) (fun w h => by cases h; try rfl) ?_
          refine z_goto dX6_bestQuestion_62 (n := 13) (by decide) ?_
          exact h9
  refine z_iload_0 dX6_bestQuestion_0 (n := 1) rfl ?_
  refine z_if_ne dX6_bestQuestion_1 (n := 4) (tg := 6) rfl (by decide) (by first | assumption | exact ⟨by omega, by omega⟩ | exact zb_zr _) (fun c1 => ?_) (fun c1 => ?_)
  · refine z_iconst dX6_bestQuestion_6 (n := 7) rfl ?_
    refine z_istore_1 dX6_bestQuestion_7 (n := 8) rfl (by decide) (fun w h => by cases h; try rfl) ?_
    refine z_bipush dX6_bestQuestion_8 (n := 10) rfl (by decide) ?_
    refine z_istore_2 dX6_bestQuestion_10 (n := 11) rfl (by decide) (fun w h => by cases h; try rfl) ?_
    refine z_iconst dX6_bestQuestion_11 (n := 12) rfl ?_
    refine z_istore_3 dX6_bestQuestion_12 (n := 13) rfl (by decide) (fun w h => by cases h; try rfl) ?_
    exact HO (by omega) 4 0 none none none (fun w h => by cases h) (fun w h => by cases h) (by omega)
  · refine z_iconst dX6_bestQuestion_4 (n := 5) rfl ?_
    refine z_ret_i dX6_bestQuestion_5 rfl ?_
    exact ⟨by rw [show v = 0 by omega]; rfl, rfl⟩
