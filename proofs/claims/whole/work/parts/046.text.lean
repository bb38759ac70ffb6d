/-! the text constant, and String's own methods over it -/
def ks (i : Int) : Int := if i = 0 then 115 else if i = 1 then 102 else if i = 2 then 119 else if i = 3 then 114 else 111
section ZT
variable {G : zG} {M : zM} {B : Room × Nat × Nat} {Q : List Frame → Array Value → State → State → Prop} {pc n : Nat} {L : List (Option zV)} {stk : List zV} {st : zS}
theorem z_ldcS (hd : decode M.2.1 pc = .ok (.ldc 45, 2)) (hn : pc + 2 = n) (hM : M.1.cls = RX2) (k : zW G M B Q n L (zR 91 :: stk) st) : zW G M B Q pc L stk st := by
  intro p l e s m args below meth c H locs ls F J P S hl
  have k := k p l e s m args below meth c H locs ls F J P S hl
  obtain ⟨hx, hb, hr, hml, hown, hts, hlocks, hK, hI, hZ⟩ := F
  subst hn
  exact va_ldcS hx hb hown (by rw [hM]; exact hZ.2.2.2.2.1) hd k
theorem z_gcs {ix : Nat} (hd : decode M.2.1 pc = .ok (.getstatic ix, 3)) (hn : pc + 3 = n) (hw : Cond.fieldLink M.1.cls ix RJ0 "COMPACT_STRINGS" "Z" ∈ zT) (k : zW G M B Q n L (zI 1 :: stk) st) : zW G M B Q pc L stk st := by
  intro p l e s m args below meth c H locs ls F J P S hl
  have k := k p l e s m args below meth c H locs ls F J P S hl
  obtain ⟨hx, hb, hr, hml, hown, hts, hlocks, hK, hI, hZ⟩ := F
  subst hn
  exact va_gets hx hb hZ.2.2.2.2.2.2.1 S hown (hts _ hw) (fun _ h => h) hd k
theorem z_sval {ix : Nat} (hd : decode M.2.1 pc = .ok (.getfield ix, 3)) (hn : pc + 3 = n) (hw : Cond.fieldLink M.1.cls ix RJ0 "value" "[B" ∈ zT) (k : zW G M B Q n L (zR 92 :: stk) st) : zW G M B Q pc L (zR 91 :: stk) st := by
  intro p l e s m args below meth c H locs ls F J P S hl
  have k := k p l e s m args below meth c H locs ls F J P S hl
  obtain ⟨hx, hb, hr, hml, hown, hts, hlocks, hK, hI, hZ⟩ := F
  subst hn
  exact vk_getf hx hb (hZ.2.2.2.2.2.1.1 0 (by decide)).2.2.1 S hown (hts _ hw) (fun _ h => h) hd k
theorem z_scod {ix : Nat} (hd : decode M.2.1 pc = .ok (.getfield ix, 3)) (hn : pc + 3 = n) (hw : Cond.fieldLink M.1.cls ix RJ0 "coder" "B" ∈ zT) (k : zW G M B Q n L (zI 0 :: stk) st) : zW G M B Q pc L (zR 91 :: stk) st := by
  intro p l e s m args below meth c H locs ls F J P S hl
  have k := k p l e s m args below meth c H locs ls F J P S hl
  obtain ⟨hx, hb, hr, hml, hown, hts, hlocks, hK, hI, hZ⟩ := F
  subst hn
  exact vk_getf hx hb (hZ.2.2.2.2.2.1.1 0 (by decide)).2.1 S hown (hts _ hw) (fun _ h => h) hd k
theorem z_slen (hd : decode M.2.1 pc = .ok (.arraylength, 1)) (hn : pc + 1 = n) (k : zW G M B Q n L (zI 5 :: stk) st) : zW G M B Q pc L (zR 92 :: stk) st := by
  intro p l e s m args below meth c H locs ls F J P S hl
  have k := k p l e s m args below meth c H locs ls F J P S hl
  obtain ⟨hx, hb, hr, hml, hown, hts, hlocks, hK, hI, hZ⟩ := F
  subst hn
  exact va_tlen hx hb (hZ.2.2.2.2.2.1.1 0 (by decide)).2.2.2 S (v := Int32.ofInt 5) rfl hd k
theorem z_sbal {i : Int} (hd : decode M.2.1 pc = .ok (.baload, 1)) (hn : pc + 1 = n) (h0 : 0 ≤ i) (h1 : i < 5) (k : zW G M B Q n L (zI (ks i) :: stk) st) : zW G M B Q pc L (zI i :: zR 92 :: stk) st := by
  intro p l e s m args below meth c H locs ls F J P S hl
  have k := k p l e s m args below meth c H locs ls F J P S hl
  obtain ⟨hx, hb, hr, hml, hown, hts, hlocks, hK, hI, hZ⟩ := F
  subst hn
  refine va_tb hx hb (hZ.2.2.2.2.2.1.1 0 (by decide)).2.2.2 S (za_in h0 h1 (by decide)) (v := .int (Int32.ofInt (ks i))) ?_ hd k
  rw [za_cl h0 (by omega)]
  have : i = 0 ∨ i = 1 ∨ i = 2 ∨ i = 3 ∨ i = 4 := by omega
  rcases this with rfl | rfl | rfl | rfl | rfl <;> rfl
theorem z_i2c {a : Int} (hd : decode M.2.1 pc = .ok (.i2c, 1)) (hn : pc + 1 = n) (h0 : 0 ≤ a) (h1 : a < 65536) (k : zW G M B Q n L (zI a :: stk) st) : zW G M B Q pc L (zI a :: stk) st := by
  intro p l e s m args below meth c H locs ls F J P S hl
  have k := k p l e s m args below meth c H locs ls F J P S hl
  subst hn
  refine lv_i2c F.1 F.2.1 hd ?_ k
  obtain ⟨x, rfl⟩ := Int.eq_ofNat_of_zero_le h0
  rw [za_nat, pk_char, pk_tn (by omega), Nat.mod_eq_of_lt (by omega)]
theorem z_callT {M' : zM} {d' ix na : Nat} {As : List zV} {post : Option zV → zS → Prop} (hd : decode M.2.1 pc = .ok (.invokevirtual ix, 3)) (hn : pc + 3 = n) (hM : zSem G M' d' (zR 91 :: As) st post) (hm : zMe M' na) (hc : M'.1.cls = RJ0) (hiv : Cond.instanceMethod M'.1 ∈ zT ∧ Cond.selects RJ0 M'.1 M'.1 ∈ zT) (hl : Cond.methodLink M.1.cls ix M'.1 ∈ zT) (hA : As.length = na) (hro : zroom M' d' B) (hs : (stk.map zcat).sum ≤ 8) (kk : ∀ r u, post r u → zW G M B Q n L (r.toList ++ stk) u) : zW G M B Q pc L (As.reverse ++ zR 91 :: stk) st := by
  intro p l e s m args below meth c H locs ls F J P S hls
  have F' := F
  obtain ⟨hx, hb, hr, hml, hown, hts, hlocks, hK, hI, hZ⟩ := F'
  subst hn
  obtain ⟨r1, r2, r3, r4⟩ := hro
  refine z_back (post := post) (rest := stk.map (zc G)) (a := (Value.ref (G.1 91) :: As.map (zc G)).toArray) (va_runV (C := RJ0) (As := As.map (zc G)) (b := G.1 91) ⟨hx, hb, hml, hown, hts⟩ (hM l) ⟨zCallB hts hm hl r1 r2, hts _ hiv.1, hts _ hiv.2⟩ ⟨zPre_blind, vk_recv (i := 0) hZ.2.2.2.2.2.1 (by decide) S, fun U hU hW => zPre_at (av := zR 91 :: As) hK hI hZ J P S hU hW⟩ rfl (by rw [List.length_map]; exact hA) hls.1 (by simp [List.map_reverse]; rfl) (lv_room (by rw [zcats]; exact hs)) hd ⟨r3, r4⟩) S ?_
  intro r u H1 locs1 hp hP hJ hS1
  have := kk r u hp p l e s m args below meth c H1 locs1 ls F hJ hP hS1 hls
  rw [List.map_append] at this
  cases r <;> exact this
theorem z_callT0 {M' : zM} {d' ix : Nat} {P : Int → zS → Prop} (hd : decode M.2.1 pc = .ok (.invokevirtual ix, 3)) (hn : pc + 3 = n) (hm : zMe M' 0) (hc : M'.1.cls = RJ0) (hiv : Cond.instanceMethod M'.1 ∈ zT ∧ Cond.selects RJ0 M'.1 M'.1 ∈ zT) (hl : Cond.methodLink M.1.cls ix M'.1 ∈ zT) (hro : zroom M' d' B) (hs : (stk.map zcat).sum ≤ 8) (hM : zSem G M' d' [zR 91] st (zpi P)) (kk : ∀ (x : Int) (u : zS), P x u → zW G M B Q n L (zI x :: stk) u) : zW G M B Q pc L (zR 91 :: stk) st :=
  z_callT (As := []) hd hn hM hm hc hiv hl rfl hro hs (fun r u h => by obtain ⟨x, rfl, hP⟩ := h; exact kk x u hP)
theorem z_callT1 {M' : zM} {d' ix : Nat} {a : zV} {P : Int → zS → Prop} (hd : decode M.2.1 pc = .ok (.invokevirtual ix, 3)) (hn : pc + 3 = n) (hm : zMe M' 1) (hc : M'.1.cls = RJ0) (hiv : Cond.instanceMethod M'.1 ∈ zT ∧ Cond.selects RJ0 M'.1 M'.1 ∈ zT) (hl : Cond.methodLink M.1.cls ix M'.1 ∈ zT) (hro : zroom M' d' B) (hs : (stk.map zcat).sum ≤ 8) (hM : zSem G M' d' [zR 91, a] st (zpi P)) (kk : ∀ (x : Int) (u : zS), P x u → zW G M B Q n L (zI x :: stk) u) : zW G M B Q pc L (a :: zR 91 :: stk) st :=
  z_callT (As := [a]) hd hn hM hm hc hiv hl rfl hro hs (fun r u h => by obtain ⟨x, rfl, hP⟩ := h; exact kk x u hP)
end ZT
theorem ks_r (i : Int) : 0 ≤ ks i ∧ ks i < 128 := by
  unfold ks
  split
  · decide
  · split
    · decide
    · split
      · decide
      · split <;> decide
/-- Preconditions.checkIndex, where the index is in range (what it is handed beside may be null) -/
theorem c_J3_checkIndex (l : Launch) {i n : Int32} {v : Value} (hv : v.category = 1) (h0 : ¬ i < 0) (h1 : i < n) : Met l yJ3_checkIndex_8e157 (zws mJ3_checkIndex_8e157) (zRm 0) (va_Pc [.int i, .int n, v] (fun _ => True)) (QcRead i) 0 0 (fun _ => False) := by
  refine Met.ofW (cc := cJ3_checkIndex_8e157) (maxL := mJ3_checkIndex_8e157.2.2.1) (ret := mJ3_checkIndex_8e157.2.2.2) (by decide +kernel) rfl ?_
  intro p e s m args below meth c s₁ Bd hml hvv
  obtain ⟨rfl, -⟩ := hvv
  have hx := Bd.exec
  have hb := Bd.bytes
  have hr := Bd.returns
  have hlocks := Bd.notSynchronized
  have hlen : (lg_sl ([.int i, .int n, v])).length ≤ mJ3_checkIndex_8e157.2.2.1 := by
    cases v <;> first | exact Nat.le_of_ble_eq_true rfl | cases hv
  have hl := lv_entry ([.int i, .int n, v]) (n := mJ3_checkIndex_8e157.2.2.1) hlen
  rw [lg_entry_eq]
  generalize (lg_sl ([.int i, .int n, v]) ++ List.replicate (mJ3_checkIndex_8e157.2.2.1 - (lg_sl ([.int i, .int n, v])).length) Slot.unset).toArray = ls at hl ⊢
  refine lv_iload_n hx hb dJ3_checkIndex_8e157_0 rfl (lv_at hl 0 rfl) ?_
  refine lv_if_lt (tgt := 9) hx hb dJ3_checkIndex_8e157_1 (by decide) (fun z => absurd z h0) (fun _ => ?_)
  refine lv_iload_n hx hb dJ3_checkIndex_8e157_4 rfl (lv_at hl 0 rfl) ?_
  refine lv_iload_n hx hb dJ3_checkIndex_8e157_5 rfl (lv_at hl 1 rfl) ?_
  refine lv_icmp_lt (tgt := 16) hx hb dJ3_checkIndex_8e157_6 (by decide) (fun _ => ?_) (fun z => absurd h1 z)
  refine lv_iload_n hx hb dJ3_checkIndex_8e157_16 rfl (lv_at hl 0 rfl) ?_
  exact W.iret hx hb hr (fun t ht hW => ⟨rfl, ht⟩) (fun q hq => by cases hq) dJ3_checkIndex_8e157_17
/-- String.checkIndex, where the index is in range -/
theorem c_J0_checkIndex {G : zG} {st : zS} {i n : Int} (hi : zr i) (hn : zr n) (h0 : 0 ≤ i) (h1 : i < n) : zSem G mJ0_checkIndex_df160 1 [zI i, zI n] st (zpv fun u => u = st) := by
  refine z_enter (L' := [some (zI i), some (zI n)]) (by decide +kernel) (Nat.le_of_ble_eq_true rfl) ⟨0, rfl⟩ ?_
  refine z_iload_0 dJ0_checkIndex_df160_0 (n := 1) rfl ?_
  refine z_iload_1 dJ0_checkIndex_df160_1 (n := 2) rfl ?_
  intro p l e s m args below meth c H locs ls F J P S hl
  have F' := F
  obtain ⟨hx, hb, hr, hml, hown, hts, hlocks, hK, hI, hZ⟩ := F'
  have key : ∀ v : Value, v.category = 1 → W p l e (zRm 1) s m args below meth c H locs 0 0 (zQm G (zpv fun u => u = st) below args s) (F0 m 5 ls [v, .int (Int32.ofInt n), .int (Int32.ofInt i)]) := by
    intro v hv
    refine W.callR (r := Int32.ofInt i) (rest := []) (W.runS (As := [.int (Int32.ofInt i), .int (Int32.ofInt n), v]) ⟨hx, hb, hml, hown, hts⟩ (c_J3_checkIndex l (i := Int32.ofInt i) (n := Int32.ofInt n) (v := v) hv (by rw [za_lt0 hi]; omega) ((za_lt hi hn).mpr h1)) ⟨zCallB hts ms_J3_checkIndex_8e157.1 lk_J0_1059 (by decide) (by decide), hts _ ms_J3_checkIndex_8e157.2⟩ ⟨fun a U g mk q => ⟨q.1, trivial⟩, fun U hU hW => ⟨rfl, trivial⟩⟩ rfl rfl hl.1 rfl (lv_room (Nat.le_of_ble_eq_true rfl)) dJ0_checkIndex_df160_5 ⟨by decide, by decide⟩) ?_
    refine lv_pop hx hb dJ0_checkIndex_df160_8 rfl ?_
    exact z_ret_v (d := 1) (P := fun u => u = st) dJ0_checkIndex_df160_9 rfl rfl p l e s m args below meth c H locs ls F J P S hl
  rcases hZ.2.2.2.2.2.2.2 with h | ⟨t, h⟩
  · exact va_gets hx hb h S hown (hts _ fs_J0_1053) (fun _ h => h) dJ0_checkIndex_df160_2 (key .null rfl)
  · exact va_gets hx hb h S hown (hts _ fs_J0_1053) (fun _ h => h) dJ0_checkIndex_df160_2 (key (.ref t) rfl)
theorem c_J1_charAt {G : zG} {st : zS} {i : Int} (h0 : 0 ≤ i) (h1 : i < 5) : zSem G mJ1_charAt_3b067 2 [zR 92, zI i] st (zpi fun r u => r = ks i ∧ u = st) := by
  have hk := ks_r i
  refine z_enter (L' := [some (zR 92), some (zI i)]) (by decide +kernel) (Nat.le_of_ble_eq_true rfl) ⟨0, rfl⟩ ?_
  refine z_iload_1 dJ1_charAt_3b067_0 (n := 1) rfl ?_
  refine z_aload_0 dJ1_charAt_3b067_1 (n := 2) rfl ?_
  refine z_slen dJ1_charAt_3b067_2 (n := 3) rfl ?_
  refine z_callS2v dJ1_charAt_3b067_3 (n := 6) rfl ms_J0_checkIndex_df160 lk_J1_9 (zrm (by decide) (by decide)) (Nat.le_of_ble_eq_true rfl) (c_J0_checkIndex ⟨by omega, by omega⟩ ⟨by omega, by omega⟩ h0 h1) (fun u hp => ?_)
  subst hp
  refine z_aload_0 dJ1_charAt_3b067_6 (n := 7) rfl ?_
  refine z_iload_1 dJ1_charAt_3b067_7 (n := 8) rfl ?_
  refine z_sbal dJ1_charAt_3b067_8 (n := 9) rfl h0 h1 ?_
  refine z_sipush dJ1_charAt_3b067_9 (n := 12) rfl (by decide) ?_
  refine z_iand dJ1_charAt_3b067_12 (n := 13) rfl hk.1 (by decide) ?_
  have e : zand (ks i) 255 = ks i := by
    unfold zand
    have : (255 : Int).toNat = 2 ^ 8 - 1 := rfl
    rw [this, Nat.and_two_pow_sub_one_eq_mod, Nat.mod_eq_of_lt (by omega)]
    omega
  rw [e]
  refine z_i2c dJ1_charAt_3b067_13 (n := 14) rfl hk.1 (by omega) ?_
  refine z_ret_n dJ1_charAt_3b067_14 rfl ?_ ⟨rfl, rfl⟩
  obtain ⟨q, hq⟩ := Int.eq_ofNat_of_zero_le hk.1
  rw [hq, za_nat]
  exact (pk_charN (by omega)).1
theorem c_J0_isLatin1 {G : zG} {st : zS} : zSem G mJ0_isLatin1_aae02 0 [zR 91] st (zpi fun r u => r = 1 ∧ u = st) := by
  refine z_enter (L' := [some (zR 91)]) (by decide +kernel) (Nat.le_of_ble_eq_true rfl) ⟨0, rfl⟩ ?_
  refine z_gcs dJ0_isLatin1_aae02_0 (n := 3) rfl fs_J0_38 ?_
  refine z_if_eq dJ0_isLatin1_aae02_3 (n := 6) (tg := 17) rfl (by decide) ⟨by decide, by decide⟩ (fun h => absurd h (by decide)) (fun _ => ?_)
  refine z_aload_0 dJ0_isLatin1_aae02_6 (n := 7) rfl ?_
  refine z_scod dJ0_isLatin1_aae02_7 (n := 10) rfl fs_J0_15 ?_
  refine z_if_ne dJ0_isLatin1_aae02_10 (n := 13) (tg := 17) rfl (by decide) ⟨by decide, by decide⟩ (fun h => absurd rfl h) (fun _ => ?_)
  refine z_iconst dJ0_isLatin1_aae02_13 (n := 14) rfl ?_
  refine z_goto dJ0_isLatin1_aae02_14 (n := 18) (by decide) ?_
  exact z_ret_z dJ0_isLatin1_aae02_18 rfl (Or.inr rfl) ⟨rfl, rfl⟩
theorem c_J0_coder {G : zG} {st : zS} : zSem G mJ0_coder_7d493 0 [zR 91] st (zpi fun r u => r = 0 ∧ u = st) := by
  refine z_enter (L' := [some (zR 91)]) (by decide +kernel) (Nat.le_of_ble_eq_true rfl) ⟨0, rfl⟩ ?_
  refine z_gcs dJ0_coder_7d493_0 (n := 3) rfl fs_J0_38 ?_
  refine z_if_eq dJ0_coder_7d493_3 (n := 6) (tg := 13) rfl (by decide) ⟨by decide, by decide⟩ (fun h => absurd h (by decide)) (fun _ => ?_)
  refine z_aload_0 dJ0_coder_7d493_6 (n := 7) rfl ?_
  refine z_scod dJ0_coder_7d493_7 (n := 10) rfl fs_J0_15 ?_
  refine z_goto dJ0_coder_7d493_10 (n := 14) (by decide) ?_
  exact z_ret_n dJ0_coder_7d493_14 rfl rfl ⟨rfl, rfl⟩
theorem c_J0_length {G : zG} {st : zS} : zSem G mJ0_length_8abf5 1 [zR 91] st (zpi fun r u => r = 5 ∧ u = st) := by
  refine z_enter (L' := [some (zR 91)]) (by decide +kernel) (Nat.le_of_ble_eq_true rfl) ⟨0, rfl⟩ ?_
  refine z_aload_0 dJ0_length_8abf5_0 (n := 1) rfl ?_
  refine z_sval dJ0_length_8abf5_1 (n := 4) rfl fs_J0_9 ?_
  refine z_slen dJ0_length_8abf5_4 (n := 5) rfl ?_
  refine z_aload_0 dJ0_length_8abf5_5 (n := 6) rfl ?_
  refine z_callT0 dJ0_length_8abf5_6 (n := 9) rfl me_J0_coder_7d493 rfl iv_J0_coder_7d493 lk_J0_335 (zrm (by decide) (by decide)) (Nat.le_of_ble_eq_true rfl) c_J0_coder (fun r u hp => ?_)
  obtain ⟨rfl, rfl⟩ := hp
  refine z_ishr dJ0_length_8abf5_9 (n := 10) rfl ⟨by decide, by decide⟩ (by decide) (by decide) ?_
  exact z_ret_i dJ0_length_8abf5_10 rfl ⟨rfl, rfl⟩
theorem c_J0_charAt {G : zG} {st : zS} {i : Int} (h0 : 0 ≤ i) (h1 : i < 5) : zSem G mJ0_charAt_5068e 3 [zR 91, zI i] st (zpi fun r u => r = ks i ∧ u = st) := by
  have hk := ks_r i
  refine z_enter (L' := [some (zR 91), some (zI i)]) (by decide +kernel) (Nat.le_of_ble_eq_true rfl) ⟨0, rfl⟩ ?_
  refine z_aload_0 dJ0_charAt_5068e_0 (n := 1) rfl ?_
  refine z_callT0 dJ0_charAt_5068e_1 (n := 4) rfl me_J0_isLatin1_aae02 rfl iv_J0_isLatin1_aae02 lk_J0_492 (zrm (by decide) (by decide)) (Nat.le_of_ble_eq_true rfl) c_J0_isLatin1 (fun r u hp => ?_)
  obtain ⟨rfl, rfl⟩ := hp
  refine z_if_eq dJ0_charAt_5068e_4 (n := 7) (tg := 16) rfl (by decide) ⟨by decide, by decide⟩ (fun h => absurd h (by decide)) (fun _ => ?_)
  refine z_aload_0 dJ0_charAt_5068e_7 (n := 8) rfl ?_
  refine z_sval dJ0_charAt_5068e_8 (n := 11) rfl fs_J0_9 ?_
  refine z_iload_1 dJ0_charAt_5068e_11 (n := 12) rfl ?_
  refine z_callS2i dJ0_charAt_5068e_12 (n := 15) rfl ms_J1_charAt_3b067 lk_J0_495 (zrm (by decide) (by decide)) (Nat.le_of_ble_eq_true rfl) (c_J1_charAt h0 h1) (fun r u hp => ?_)
  obtain ⟨rfl, rfl⟩ := hp
  refine z_ret_n dJ0_charAt_5068e_15 rfl ?_ ⟨rfl, rfl⟩
  obtain ⟨q, hq⟩ := Int.eq_ofNat_of_zero_le hk.1
  rw [hq, za_nat]
  exact (pk_charN (by omega)).1
def kindB (c : Int) : Int := if c = 115 then 0 else if c = 102 then 1 else if c = 119 then 2 else if c = 114 then 3 else if c = 111 then 4 else -1
theorem kindB_r (c : Int) : -1 ≤ kindB c ∧ kindB c ≤ 4 := by
  unfold kindB
  repeat' split
  all_goals omega
