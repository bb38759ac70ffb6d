/-! the law's start -/
theorem P_re {D : va_G} {cl : List vw_C} {ws : va_W} {H : Heap} {i a : Nat} {cA : ClassId} {x : vp_A} (y : vp_A) (hP : va_P D cl ws H) (h : ws[i]? = some (a, .inl (cA, x))) (e : vp_cell cA x = vp_cell cA y) : va_P D cl (ws.set i (a, .inl (cA, y))) H := by
  intro k q hk
  by_cases hi : k = i
  · subst hi
    have hl : k < ws.length := (List.getElem?_eq_some_iff.mp h).1
    rw [List.getElem?_set_self hl] at hk
    cases hk
    have := hP k _ h
    show H[a]? = some (vp_cell cA y)
    rw [← e]
    exact this
  · rw [List.getElem?_set_ne (fun z => hi z.symm)] at hk
    exact hP k q hk
def sz0 : zSz := fun _ _ => 0
def ar0 : zAr := fun k => if k = 28 then (fun _ => 31) else if k = 30 then (fun _ => 31) else fun _ => 0
theorem z00 : (0 : Int) ≤ 0 ∧ (0 : Int) ≤ 126 := by decide
theorem zr00 : zr 0 := ⟨by decide, by decide⟩
theorem IN_0 : IN 0 sz0 ar0 := by
  refine ⟨fun _ => [], fun _ => [], ⟨rfl, rfl, rfl, ⟨by decide, by decide, fun s a b => ?_, fun j a b => ?_⟩, fun h => absurd rfl h⟩, ⟨rfl, rfl, by decide, by decide, fun i => z00⟩, ⟨LR.nil, LR.nil, LR.nil, fun w a b => ⟨LR.nil, Lt.nil, Nat.zero_le 16, Rdd.nil⟩⟩, ⟨rfl, by decide, by decide, fun i => zr00, fun i => zr00, fun i => Or.inl rfl, fun s a b => ?_⟩, ⟨rfl, by decide, by decide, by decide, Or.inl rfl, by decide⟩, ⟨rfl, rfl, fun i => zr00, fun i => zr00, fun i => Or.inl rfl, fun h => by cases h⟩⟩
  · exact absurd b (by show ¬ s < 0; omega)
  · exact absurd b (by show ¬ j < 2 * 0; omega)
  · show (31 : Int) = srt 0 _ _ _ s 5
    rw [srt_0]
/-- what holds at the law's entry -/
def LF (b L : Nat) (xs : Nat → Int32) (s : State) : Prop := va_X b L xs s s.heap ∧ b < s.heap.size ∧ (Jvm.Cond.and given_1 narrow_1).before #[Value.ref b] s = true ∧ ∀ w ∈ lw_tbl, w.before #[Value.ref b] s = true
abbrev mLw (nm : String) : zM := (⟨RL, nm, "([I)Z"⟩, cL_law, 4, some .boolean)
def QL0 : List Frame → Array Value → State → State → Prop := fun below _ s t => ∃ o : Outcome, t.status = .running ∧ Ended t below o ∧ o = .returned (some (.int 1)) ∧ Framed s o t [] 600000 7302250
theorem LF.ao {b L : Nat} {xs : Nat → Int32} {s : State} (h : LF b L xs s) : va_AO "TreeActs$Letters" s := va_AO.of (h.2.2.2 (.arrayOver (.object "TreeActs$Letters")) (List.mem_of_getElem? (i := 115) (by decide +kernel)))
section ZN2
variable {D : nT} {E : State → Prop} {M : zM} {R : Room} {w0 : va_W} {Q : List Frame → Array Value → State → State → Prop} {pc n : Nat} {L : List (Nat × Value)} {stk : List Value} {ws : va_W} {kc ks : Nat}
theorem n_astore {k : Fin 4} {i x : Nat} {L' : List (Nat × Value)} (hd : decode M.2.1 pc = .ok (.astore_n k, 1)) (hn : pc + 1 = n) (hi : (k : Nat) = i) (h1 : i < M.2.2.1) (hl' : (i, Value.ref x) :: L.filter (fun q => !(q.1 == i) && !(q.1 + 1 == i && q.2.category == 2)) = L') (kk : nW D E M R w0 Q n L' stk ws kc ks) : nW D E M R w0 Q pc L (.ref x :: stk) ws kc ks := by
  intro p l e s m args below meth c H locs ls F P Dd S hl
  subst hn
  exact lv_astore_n F.1 F.2.1 hd hi hl h1 hl' (fun ls' h' => kk p l e s m args below meth c H locs ls' F P Dd S h')
theorem n_callE {E' : State → Prop} {M' : zM} {d' mc ms ix na a : Nat} {x : va_E} {As : List Value} {wr : va_W} {post : va_W → Prop} (hE1 : ∀ s U : State, E s → s.vm.Alike U.vm → E' U) (hE2 : ∀ (U : State) (g : JFrame) (mk : MethodId) (a : Array Value), E' U → E' (U.calling g mk a)) (hd : decode M.2.1 pc = .ok (.invokespecial ix, 3)) (hn : pc + 3 = n) (hM : nCt D E' M' d' mc ms (.ref a :: As) [(a, x)] post) (hme : zMe M' na) (hret : M'.2.2.2 = none) (hlk : Cond.methodLink M.1.cls ix M'.1 ∈ zT) (hnm' : M'.1.name = "<init>") (him : Cond.instanceMethod M'.1 ∈ zT) (hA : As.length = na) (h1 : d' + 1 ≤ R.frames) (h2 : 8 + (M'.2.2.1 + 11) + 40 * d' ≤ R.locals) (h3 : kc + mc ≤ R.cells) (h4 : ks + ms ≤ R.slots) (hs : (stk.map fun v => v.category).sum ≤ 8)
    (kk : ∀ u, post u → nW D E M R w0 Q n L stk (wr ++ u) (kc + mc) (ks + ms)) : nW D E M R w0 Q pc L (As.reverse ++ .ref a :: stk) (wr ++ [(a, x)]) kc ks := by
  intro p l e s m args below meth c H locs ls F P Dd S hl
  have F' := F
  obtain ⟨hx, hb, hr', hml, hown, hts, hlocks, hnm, hK, hE⟩ := F'
  subst hn
  have hC : [wr.length].map (fun i => (wr ++ [(a, x)])[i]?) = [(a, x)].map some := by simp
  have hPc := P.sub (ws' := [(a, x)]) [wr.length] (by simp)
  have hDc := Dd.sub (ws' := [(a, x)]) [wr.length] (by simp [va_nd]) (by simp)
  have hFc := va_free (wc := [(a, x)]) Dd S (fun q h => Or.inr h) [wr.length] hC
  have hcb : CallB R s args M.1.cls ix M'.1 M'.2.1 M'.2.2.1 none (zws M') (nRm d' mc ms) mc ms na := by
    have := callB_of (R := R) (rm := nRm d' mc ms) (mc := mc) (ms := ms) na hts (zGood hme.1) rfl rfl rfl (hts _ hme.2.1) (hts _ hlk) hme.2.2 ⟨h1, h2⟩
    rw [hret] at this
    exact this
  refine va_callv (va_runI (As := As) (rest := stk) (b := a) ⟨hx, hb, hml, hown, hts⟩ (hM l H.size) ⟨hcb, hnm', hts _ him⟩ ⟨fun a U g mk q => by obtain ⟨q0, q1, qP, qK, qE, qD⟩ := q; exact ⟨q0, q1, qP, va_K.moved (u := U) (U := U.calling g mk a) (Vm.Alike.refl U.vm) qK, hE2 _ _ _ _ qE, qD⟩, fun U hU hW => ⟨rfl, by rw [hU], by rw [hU]; exact hPc, va_K.moved hW.alike hK, hE1 s U hE hW.alike, hDc.weaken (fun _ _ _ _ => trivial)⟩⟩ rfl hA hl.1 rfl (lv_room hs) hd ⟨h3, h4⟩) S (fun q _ h => hFc q h) hFc (fun u t H1 locs1 ht hvm hw hB hz1 hk1 S1 => ?_)
  obtain ⟨hP1, hD1⟩ := hB
  rw [ht] at hP1
  obtain ⟨P2, D2⟩ := va_join (wr := wr) (w1 := u) P Dd [wr.length] (List.range wr.length) hC (by
    apply List.ext_getElem (by simp)
    intro i i1 i2
    simp at i1
    simp [List.getElem?_append_left i1]) (va_nd_of _ List.nodup_range) (by simp; omega) hk1 hFc hP1 hD1
  exact kk u hw p l e s m args below meth c H1 locs1 ls F P2 D2 S1 hl
end ZN2
/-- the addresses -/
def zAdr (zl : List Nat) (a90 a91 a92 b : Nat) : Nat → Nat := fun k => if k = 90 then a90 else if k = 91 then a91 else if k = 92 then a92 else if k = 95 then b else zl.getD k 0
set_option maxHeartbeats 16000000 in
set_option maxRecDepth 100000 in
theorem law_go {nm : String} {b L : Nat} {xs : Nat → Int32} (hL : L ≤ 2048) (G : zG) (hG : G.2.2.2.1 = L) (hG2 : G.2.2.2.2 = xs) (z0 z1 z2 z3 z4 z5 z6 z7 z8 z9 z10 z11 z12 z13 z14 z15 z16 z17 z18 z19 z20 z21 z22 z23 z24 z25 z26 z27 z28 z29 z30 z31 z32 z33 z34 z35 z36 z37 z38 z39 z40 z41 z42 z43 z44 z45 z46 z47 z48 z49 z50 z51 z52 z53 z54 z55 z56 z57 z58 z59 z60 : Nat) :
    nW (G.2.2.1, zty G) (LF b L xs) (mLw nm) room_1 [] QL0 18 [(3, .int 0), (2, .ref z41), (1, .ref z0), (0, .ref b)] [] [(z0, .inr (6, [.ref z1, .ref z3, .ref z8, .ref z13, .ref z20, .ref z27, .ref z29, .ref z31, .ref z38, .ref z40, .int 0, .int 0])), (z1, .inr (2, [.ref z2, .int 0])), (z2, .inl (G.2.1 1, 24, .inl (fun _ => 0))), (z3, .inr (3, [.ref z4, .ref z5, .ref z6, .ref z7, .int 0])), (z4, .inl (G.2.1 1, 6, .inl (fun _ => 0))), (z5, .inl (G.2.1 1, 12, .inl (fun _ => 0))), (z6, .inl (G.2.1 1, 7, .inl (fun _ => 0))), (z7, .inl (G.2.1 1, 7, .inl (fun _ => 0))), (z8, .inr (3, [.ref z9, .ref z10, .ref z11, .ref z12, .int 0])), (z9, .inl (G.2.1 1, 6, .inl (fun _ => 0))), (z10, .inl (G.2.1 1, 12, .inl (fun _ => 0))), (z11, .inl (G.2.1 1, 7, .inl (fun _ => 0))), (z12, .inl (G.2.1 1, 7, .inl (fun _ => 0))), (z13, .inl (G.2.1 4, 3, .inr (.inr (.inr (.inr (va_up (va_up (va_up (fun _ => none) 0 (some z14)) 1 (some z16)) 2 (some z18))))))), (z20, .inl (G.2.1 4, 3, .inr (.inr (.inr (.inr (va_up (va_up (va_up (fun _ => none) 0 (some z21)) 1 (some z23)) 2 (some z25))))))), (z14, .inr (1, [.ref z15, .int 0])), (z15, .inl (G.2.1 1, 16, .inl (fun _ => 0))), (z21, .inr (1, [.ref z22, .int 0])), (z22, .inl (G.2.1 1, 16, .inl (fun _ => 0))), (z16, .inr (1, [.ref z17, .int 0])), (z17, .inl (G.2.1 1, 16, .inl (fun _ => 0))), (z23, .inr (1, [.ref z24, .int 0])), (z24, .inl (G.2.1 1, 16, .inl (fun _ => 0))), (z18, .inr (1, [.ref z19, .int 0])), (z19, .inl (G.2.1 1, 16, .inl (fun _ => 0))), (z25, .inr (1, [.ref z26, .int 0])), (z26, .inl (G.2.1 1, 16, .inl (fun _ => 0))), (z27, .inr (5, [.ref z28, .int 0])), (z28, .inl (G.2.1 1, 6, .inl (upd (upd (upd (upd (upd (upd (fun _ => 0) 0 31) 1 31) 2 31) 3 31) 4 31) 5 31))), (z29, .inr (5, [.ref z30, .int 0])), (z30, .inl (G.2.1 1, 6, .inl (upd (upd (upd (upd (upd (upd (fun _ => 0) 0 31) 1 31) 2 31) 3 31) 4 31) 5 31))), (z31, .inr (4, [.ref z32, .ref z33, .ref z34, .ref z36, .int 0])), (z32, .inl (G.2.1 2, 328, .inr (.inl (fun _ => 0)))), (z33, .inl (G.2.1 2, 8, .inr (.inl (fun _ => 0)))), (z34, .inr (1, [.ref z35, .int 0])), (z35, .inl (G.2.1 1, 128, .inl (fun _ => 0))), (z36, .inr (1, [.ref z37, .int 0])), (z37, .inl (G.2.1 1, 128, .inl (fun _ => 0))), (z38, .inr (1, [.ref z39, .int 0])), (z39, .inl (G.2.1 1, 128, .inl (fun _ => 0))), (z40, .inr (0, [.long 0])), (z41, .inr (7, [.int 0, .ref z42, .ref z43, .int 0, .ref z44, .ref z45, .int 0, .ref z46, .ref z47, .ref z48, .int 0, .ref z49, .int 0, .ref z50, .int 0, .ref z51, .ref z52, .long 0, .ref z53, .int 0, .int 0, .int 0, .ref z54, .ref z55, .ref z56, .ref z57, .ref z58, .ref z59, .ref z60, .long 0])), (z42, .inl (G.2.1 1, 6, .inl (fun _ => 0))), (z43, .inl (G.2.1 1, 12, .inl (fun _ => 0))), (z44, .inl (G.2.1 1, 3, .inl (fun _ => 0))), (z45, .inl (G.2.1 1, 48, .inl (fun _ => 0))), (z46, .inl (G.2.1 1, 6, .inl (fun _ => 0))), (z47, .inl (G.2.1 1, 6, .inl (fun _ => 0))), (z48, .inl (G.2.1 3, 6, .inl (fun _ => 0))), (z49, .inl (G.2.1 1, 24, .inl (fun _ => 0))), (z50, .inl (G.2.1 1, 128, .inl (fun _ => 0))), (z51, .inl (G.2.1 1, 41, .inl (fun _ => 0))), (z52, .inl (G.2.1 0, 5248, .inl (fun _ => 0))), (z53, .inl (G.2.1 1, 4, .inl (fun _ => 0))), (z54, .inl (G.2.1 1, 6, .inl (fun _ => 0))), (z55, .inl (G.2.1 1, 12, .inl (fun _ => 0))), (z56, .inl (G.2.1 1, 3, .inl (fun _ => 0))), (z57, .inl (G.2.1 1, 48, .inl (fun _ => 0))), (z58, .inl (G.2.1 1, 6, .inl (fun _ => 0))), (z59, .inl (G.2.1 1, 6, .inl (fun _ => 0))), (z60, .inl (G.2.1 3, 6, .inl (fun _ => 0)))] 61 6623 := by
  intro p l e s m args below meth c H locs ls F P Dd S hl
  obtain ⟨hx, hb, hr', hml, hown, hts, hlocks, hnm, hK, hE⟩ := F
  obtain ⟨hX, hbl, hgv, hlw⟩ := hE
  have hA0 : ∀ a : Nat, a < s.heap.size → ¬ (s.heap.size ≤ a) := fun a h => Nat.not_le.mpr h
  have hzA : ∀ q, va_A [] s.heap.size q → s.heap.size ≤ q := by
    rintro q (⟨k, e, h⟩ | h)
    · simp at h
    · exact h
  have hg := flat_of_before _ hgv
  obtain ⟨t90, ht90, T90⟩ := va_Tof (args := #[Value.ref b]) (s := s) (A := fun q => s.heap.size ≤ q) (tm := .static "TreeActs" "SORTS_OF_YES" "[I") (ty := .int) (N := 4) (f := fun j => .int (Int32.ofInt (zsy j))) (by decide) (hg _ (by decide +kernel)) (va_eqt (hg (.eq (.length (.static "TreeActs" "SORTS_OF_YES" "[I")) (.int 4)) (by decide +kernel))) (fun j hj => by
    have : j = 0 ∨ j = 1 ∨ j = 2 ∨ j = 3 := by omega
    rcases this with rfl | rfl | rfl | rfl
    · exact va_eqt (hg (.eq (.elem (.static "TreeActs" "SORTS_OF_YES" "[I") (.int 0)) (.int 22)) (by decide +kernel))
    · exact va_eqt (hg (.eq (.elem (.static "TreeActs" "SORTS_OF_YES" "[I") (.int 1)) (.int 7)) (by decide +kernel))
    · exact va_eqt (hg (.eq (.elem (.static "TreeActs" "SORTS_OF_YES" "[I") (.int 2)) (.int 4)) (by decide +kernel))
    · exact va_eqt (hg (.eq (.elem (.static "TreeActs" "SORTS_OF_YES" "[I") (.int 3)) (.int 24)) (by decide +kernel))) hA0
  have Z90 := va_Zof (A := fun q => s.heap.size ≤ q) (hlw (.laysStatic "TreeActs" "SORTS_OF_YES" "[I") (List.mem_of_getElem? (i := 469) (by decide +kernel))) (hlw (.initialized "TreeActs") (List.mem_of_getElem? (i := 55) (by decide +kernel))) ht90 hA0
  obtain ⟨adK, adV, S91, e91⟩ := vk_Sof (args := #[Value.ref b]) (s := s) (N := 1) (tm := fun _ => .string "TreeActs$Page" 45) (len := [5]) (byt := [[115, 102, 119, 114, 111]]) (A := fun q => s.heap.size ≤ q) (fun i hi => by
    obtain rfl : i = 0 := by omega
    decide) (fun i hi => hg (.exactly (.string "TreeActs$Page" 45) "java/lang/String") (by decide +kernel)) (fun i hi => hg (.eq (.field (.string "TreeActs$Page" 45) "java/lang/String" "coder" "B") (.int 0)) (by decide +kernel)) (fun i hi => hg (.arrayOf (.field (.string "TreeActs$Page" 45) "java/lang/String" "value" "[B") .byte) (by decide +kernel)) (fun i hi => by
    obtain rfl : i = 0 := by omega
    exact hg (.eq (.length (.field (.string "TreeActs$Page" 45) "java/lang/String" "value" "[B")) (.int 5)) (by decide +kernel)) (fun i hi j hj => by
    obtain rfl : i = 0 := by omega
    have hj5 : j < 5 := hj
    have : j = 0 ∨ j = 1 ∨ j = 2 ∨ j = 3 ∨ j = 4 := by omega
    rcases this with rfl | rfl | rfl | rfl | rfl
    · exact hg (.eq (.elem (.field (.string "TreeActs$Page" 45) "java/lang/String" "value" "[B") (.int 0)) (.int 115)) (by decide +kernel)
    · exact hg (.eq (.elem (.field (.string "TreeActs$Page" 45) "java/lang/String" "value" "[B") (.int 1)) (.int 102)) (by decide +kernel)
    · exact hg (.eq (.elem (.field (.string "TreeActs$Page" 45) "java/lang/String" "value" "[B") (.int 2)) (.int 119)) (by decide +kernel)
    · exact hg (.eq (.elem (.field (.string "TreeActs$Page" 45) "java/lang/String" "value" "[B") (.int 3)) (.int 114)) (by decide +kernel)
    · exact hg (.eq (.elem (.field (.string "TreeActs$Page" 45) "java/lang/String" "value" "[B") (.int 4)) (.int 111)) (by decide +kernel)) (fun i j hi hj h => absurd (show i = j by omega) h) hA0
  have Z7 := va_Zof (A := fun q => s.heap.size ≤ q) (hlw (.laysStatic "java/lang/String" "COMPACT_STRINGS" "Z") (List.mem_of_getElem? (i := 264) (by decide +kernel))) (hlw (.initialized RJ0) (List.mem_filter.mp ini_RJ0).1) (va_eqt (hg (.eq (.static "java/lang/String" "COMPACT_STRINGS" "Z") (.int 1)) (by decide +kernel))) hA0
  have Z8 := va_Zqof (A := fun q => s.heap.size ≤ q) (hlw (.laysStatic "jdk/internal/util/Preconditions" "SIOOBE_FORMATTER" "Ljava/util/function/BiFunction;") (List.mem_of_getElem? (i := 280) (by decide +kernel))) (hlw (.initialized RJ3) (List.mem_filter.mp ini_RJ3).1) (hg (.isRef (.static "jdk/internal/util/Preconditions" "SIOOBE_FORMATTER" "Ljava/util/function/BiFunction;")) (by decide +kernel)) hA0
  obtain ⟨G', hGe⟩ : ∃ G' : zG, G' = (zAdr [z0, z1, z2, z3, z4, z5, z6, z7, z8, z9, z10, z11, z12, z13, z14, z15, z16, z17, z18, z19, z20, z21, z22, z23, z24, z25, z26, z27, z28, z29, z30, z31, z32, z33, z34, z35, z36, z37, z38, z39, z40, z41, z42, z43, z44, z45, z46, z47, z48, z49, z50, z51, z52, z53, z54, z55, z56, z57, z58, z59, z60] t90 (adK 0) (adV 0) b, G.2.1, G.2.2.1, L, xs) := ⟨_, rfl⟩
  have P1 := P_re (i := 13) (a := z13) (cA := G.2.1 4) (3, .inr (.inr (.inr (.inr (fun j => some (zAdr [z0, z1, z2, z3, z4, z5, z6, z7, z8, z9, z10, z11, z12, z13, z14, z15, z16, z17, z18, z19, z20, z21, z22, z23, z24, z25, z26, z27, z28, z29, z30, z31, z32, z33, z34, z35, z36, z37, z38, z39, z40, z41, z42, z43, z44, z45, z46, z47, z48, z49, z50, z51, z52, z53, z54, z55, z56, z57, z58, z59, z60] t90 (adK 0) (adV 0) b (14 + 2 * (j : Int)).toNat)))))) P rfl rfl
  have D1 := Dd.set (p := 13) (a := z13) (e := .inl (G.2.1 4, 3, .inr (.inr (.inr (.inr (fun j => some (zAdr [z0, z1, z2, z3, z4, z5, z6, z7, z8, z9, z10, z11, z12, z13, z14, z15, z16, z17, z18, z19, z20, z21, z22, z23, z24, z25, z26, z27, z28, z29, z30, z31, z32, z33, z34, z35, z36, z37, z38, z39, z40, z41, z42, z43, z44, z45, z46, z47, z48, z49, z50, z51, z52, z53, z54, z55, z56, z57, z58, z59, z60] t90 (adK 0) (adV 0) b (14 + 2 * (j : Int)).toNat))))))) rfl
  have P2 := P_re (i := 14) (a := z20) (cA := G.2.1 4) (3, .inr (.inr (.inr (.inr (fun j => some (zAdr [z0, z1, z2, z3, z4, z5, z6, z7, z8, z9, z10, z11, z12, z13, z14, z15, z16, z17, z18, z19, z20, z21, z22, z23, z24, z25, z26, z27, z28, z29, z30, z31, z32, z33, z34, z35, z36, z37, z38, z39, z40, z41, z42, z43, z44, z45, z46, z47, z48, z49, z50, z51, z52, z53, z54, z55, z56, z57, z58, z59, z60] t90 (adK 0) (adV 0) b (21 + 2 * (j : Int)).toNat)))))) P1 rfl rfl
  have D2 := D1.set (p := 14) (a := z20) (e := .inl (G.2.1 4, 3, .inr (.inr (.inr (.inr (fun j => some (zAdr [z0, z1, z2, z3, z4, z5, z6, z7, z8, z9, z10, z11, z12, z13, z14, z15, z16, z17, z18, z19, z20, z21, z22, z23, z24, z25, z26, z27, z28, z29, z30, z31, z32, z33, z34, z35, z36, z37, z38, z39, z40, z41, z42, z43, z44, z45, z46, z47, z48, z49, z50, z51, z52, z53, z54, z55, z56, z57, z58, z59, z60] t90 (adK 0) (adV 0) b (21 + 2 * (j : Int)).toNat))))))) rfl
  have P3 := P_re (i := 28) (a := z28) (cA := G.2.1 1) (6, .inl (fun _ => Int32.ofInt 31)) P2 rfl rfl
  have D3 := D2.set (p := 28) (a := z28) (e := .inl (G.2.1 1, 6, .inl (fun _ => Int32.ofInt 31))) rfl
  have P4 := P_re (i := 30) (a := z30) (cA := G.2.1 1) (6, .inl (fun _ => Int32.ofInt 31)) P3 rfl rfl
  have D4 := D3.set (p := 30) (a := z30) (e := .inl (G.2.1 1, 6, .inl (fun _ => Int32.ofInt 31))) rfl
  have P5 : va_P G'.2.2.1 vwCl (zw G' (X sz0 ar0)) H := by
    rw [hGe]
    exact P4.sub [0, 1, 2, 3, 4, 5, 6, 7, 8, 9, 10, 11, 12, 13, 15, 16, 19, 20, 23, 24, 14, 17, 18, 21, 22, 25, 26, 27, 28, 29, 30, 31, 32, 33, 34, 35, 36, 37, 38, 39, 40, 41, 42, 43, 44, 45, 46, 47, 48, 49, 50, 51, 52, 53, 54, 55, 56, 57, 58, 59, 60] rfl
  have D5 : va_D (va_A [] s.heap.size) (zw G' (X sz0 ar0)) := by
    rw [hGe]
    exact D4.sub [0, 1, 2, 3, 4, 5, 6, 7, 8, 9, 10, 11, 12, 13, 15, 16, 19, 20, 23, 24, 14, 17, 18, 21, 22, 25, 26, 27, 28, 29, 30, 31, 32, 33, 34, 35, 36, 37, 38, 39, 40, 41, 42, 43, 44, 45, 46, 47, 48, 49, 50, 51, 52, 53, 54, 55, 56, 57, 58, 59, 60] (by decide +kernel) rfl
  have hzG : ∀ q, zAd G' q → s.heap.size ≤ q := by
    rintro q ⟨k, hk, rfl⟩
    exact hzA _ (D5.2 k _ (zw_at hk))
  have hI : zInj G' := fun i j hi hj e => D5.1 i j _ _ (zw_at hi) (zw_at hj) e
  have hNA : ∀ q : Nat, q < s.heap.size → ¬ zAd G' q := fun q h z => Nat.not_le.mpr h (hzG q z)
  have hZ : zStat G' s := by
    obtain ⟨scr, x1, x2, x3, x4, x5⟩ := hX
    have hnb : ¬ zAd G' b := hNA b hbl
    refine ⟨?_, ?_, ?_, fun w hw => ?_, ?_, ?_, Z7.narrow hzG, Z8.narrow hzG⟩
    · have := Z90.narrow hzG
      rw [hGe] at this ⊢
      exact this
    · have := T90.narrow hzG
      rw [hGe] at this ⊢
      exact this
    · rw [hGe] at hnb ⊢
      exact ⟨scr, x1, x2, x3, Nat.le_of_eq x4.symm, by rw [x4], x5, hnb⟩
    · obtain ⟨a, i, x, hh, rfl⟩ := zNW_form hw
      exact hlw _ (List.mem_filter.mp hw).1
    · rw [hGe]
      exact ⟨hlw (.stringRef "TreeActs$Page" 45 "sfwro") (List.mem_of_getElem? (i := 254) (by decide +kernel)), e91 0 (by decide)⟩
    · have := S91.narrow hzG
      rw [hGe] at this ⊢
      refine ⟨fun i hi => ?_, fun i j hi hj _ => by omega⟩
      obtain rfl : i = 0 := by omega
      exact this.1 0 hi
  refine va_forget (fun q hq => hzA _ (S.2.2 q hq)) ?_
  refine W.widen (k := 600000) (n := 7302250) (Nat.le_of_ble_eq_true rfl) (Nat.le_of_ble_eq_true rfl) ?_
  have hG1 : G'.2.2.2.1 = L := by rw [hGe]
  have hfx : zFx G' mLaw p s m args meth c := by
    rw [hGe] at hI hZ ⊢
    exact ⟨hx, hb, hr', hml, hown, hts, hlocks, hK, hI, hZ⟩
  have hls : zls G' ls 4 [some (zR 95), some (zR 0), some (zR 41), some (zI 0)] := by
    refine ⟨hl.1, hl.2.1, fun i v hi => ?_⟩
    rw [hGe]
    match i, hi with
    | 0, hi => cases hi; exact lv_at hl 3 rfl
    | 1, hi => cases hi; exact lv_at hl 2 rfl
    | 2, hi => cases hi; exact lv_at hl 1 rfl
    | 3, hi => cases hi; exact lv_at hl 0 rfl
    | i + 4, hi => simp at hi
  have hW := law_loop (G := G') (by omega) 512 0 sz0 ar0 (by omega) (by omega) (by decide) (by rw [hG1]; omega) IN_0 p l e s m args below meth c H [] ls hfx (X_J _ _) P5 ⟨S.1, fun q h1 h2 => S.2.1 q h1 (fun z => Nat.not_le.mpr h1 (hzA q z)), fun q h => by cases h⟩ hls
  exact W_mono9 hW (fun t ⟨o, Lc, h1, h2, h3, h4, h5⟩ => ⟨o, h1, h2, h3, by rw [h5 hzG] at h4; exact h4⟩)
set_option maxHeartbeats 16000000 in
set_option maxRecDepth 100000 in
theorem law_make {nm : String} {b L : Nat} {xs : Nat → Int32} (hL : L ≤ 2048) (G : zG) (hG : G.2.2.2.1 = L) (hG2 : G.2.2.2.2 = xs) :
    nW (G.2.2.1, zty G) (LF b L xs) (mLw nm) room_1 [] QL0 0 [(0, .ref b)] [] [] 0 0 := by
  refine n_new tyX6 (ci := 6) (fs := [.null, .null, .null, .null, .null, .null, .null, .null, .null, .null, .int 0, .int 0]) dL_law_0 (n := 3) rfl rfl iw_X6 tyX6_ok cl_RL_7 in_RX6 ini_RX6 (fun j hj => by rcases (show j = 0 ∨ j = 1 ∨ j = 2 ∨ j = 3 ∨ j = 4 ∨ j = 5 ∨ j = 6 ∨ j = 7 ∨ j = 8 ∨ j = 9 ∨ j = 10 ∨ j = 11 by omega) with rfl | rfl | rfl | rfl | rfl | rfl | rfl | rfl | rfl | rfl | rfl | rfl <;> rfl) (Nat.le_of_ble_eq_true rfl) (Nat.le_of_ble_eq_true rfl) (fun z0 => ?_)
  refine n_dup dL_law_3 (n := 4) rfl rfl ?_
  show nW _ _ _ _ _ _ _ _ (([] : List Value).reverse ++ .ref z0 :: [.ref z0]) ([] ++ [(z0, .inr (6, [.null, .null, .null, .null, .null, .null, .null, .null, .null, .null, .int 0, .int 0]))]) _ _
  refine n_callE (E' := va_AO "TreeActs$Letters") (M := mLw nm) (D := (G.2.2.1, zty G)) (R := room_1) (pc := 4) (kc := 1) (ks := 12) (stk := [.ref z0]) (wr := []) (As := []) (mc := 40) (ms := 962) (fun s U h ha => va_AO.moved ha h.ao) (fun U g mk a h => h) dL_law_4 (n := 7) rfl (k_X6 G z0) me_X6_init rfl lk_L_9 rfl im_RX6 rfl (Nat.le_of_ble_eq_true rfl) (Nat.le_of_ble_eq_true rfl) (Nat.le_of_ble_eq_true rfl) (Nat.le_of_ble_eq_true rfl) (Nat.le_of_ble_eq_true rfl) (fun u hu => ?_)
  obtain ⟨z1, z2, z3, z4, z5, z6, z7, z8, z9, z10, z11, z12, z13, z20, z14, z15, z21, z22, z16, z17, z23, z24, z18, z19, z25, z26, z27, z28, z29, z30, z31, z32, z33, z34, z35, z36, z37, z38, z39, z40, rfl⟩ := hu
  refine n_astore (L' := [(1, .ref z0), (0, .ref b)]) dL_law_7 (n := 8) rfl (i := 1) rfl (Nat.le_of_ble_eq_true rfl) rfl ?_
  refine n_new tyX7 (ci := 7) (fs := [.int 0, .null, .null, .int 0, .null, .null, .int 0, .null, .null, .null, .int 0, .null, .int 0, .null, .int 0, .null, .null, .long 0, .null, .int 0, .int 0, .int 0, .null, .null, .null, .null, .null, .null, .null, .long 0]) dL_law_8 (n := 11) rfl rfl iw_X7 tyX7_ok cl_RL_10 in_RX7 ini_RX7 (fun j hj => by rcases (show j = 0 ∨ j = 1 ∨ j = 2 ∨ j = 3 ∨ j = 4 ∨ j = 5 ∨ j = 6 ∨ j = 7 ∨ j = 8 ∨ j = 9 ∨ j = 10 ∨ j = 11 ∨ j = 12 ∨ j = 13 ∨ j = 14 ∨ j = 15 ∨ j = 16 ∨ j = 17 ∨ j = 18 ∨ j = 19 ∨ j = 20 ∨ j = 21 ∨ j = 22 ∨ j = 23 ∨ j = 24 ∨ j = 25 ∨ j = 26 ∨ j = 27 ∨ j = 28 ∨ j = 29 by omega) with rfl | rfl | rfl | rfl | rfl | rfl | rfl | rfl | rfl | rfl | rfl | rfl | rfl | rfl | rfl | rfl | rfl | rfl | rfl | rfl | rfl | rfl | rfl | rfl | rfl | rfl | rfl | rfl | rfl | rfl <;> rfl) (Nat.le_of_ble_eq_true rfl) (Nat.le_of_ble_eq_true rfl) (fun z41 => ?_)
  refine n_dup dL_law_11 (n := 12) rfl rfl ?_
  show nW _ _ _ _ _ _ _ _ (([] : List Value).reverse ++ .ref z41 :: [.ref z41]) ([(z0, .inr (6, [.ref z1, .ref z3, .ref z8, .ref z13, .ref z20, .ref z27, .ref z29, .ref z31, .ref z38, .ref z40, .int 0, .int 0])), (z1, .inr (2, [.ref z2, .int 0])), (z2, .inl (G.2.1 1, 24, .inl (fun _ => 0))), (z3, .inr (3, [.ref z4, .ref z5, .ref z6, .ref z7, .int 0])), (z4, .inl (G.2.1 1, 6, .inl (fun _ => 0))), (z5, .inl (G.2.1 1, 12, .inl (fun _ => 0))), (z6, .inl (G.2.1 1, 7, .inl (fun _ => 0))), (z7, .inl (G.2.1 1, 7, .inl (fun _ => 0))), (z8, .inr (3, [.ref z9, .ref z10, .ref z11, .ref z12, .int 0])), (z9, .inl (G.2.1 1, 6, .inl (fun _ => 0))), (z10, .inl (G.2.1 1, 12, .inl (fun _ => 0))), (z11, .inl (G.2.1 1, 7, .inl (fun _ => 0))), (z12, .inl (G.2.1 1, 7, .inl (fun _ => 0))), (z13, .inl (G.2.1 4, 3, .inr (.inr (.inr (.inr (va_up (va_up (va_up (fun _ => none) 0 (some z14)) 1 (some z16)) 2 (some z18))))))), (z20, .inl (G.2.1 4, 3, .inr (.inr (.inr (.inr (va_up (va_up (va_up (fun _ => none) 0 (some z21)) 1 (some z23)) 2 (some z25))))))), (z14, .inr (1, [.ref z15, .int 0])), (z15, .inl (G.2.1 1, 16, .inl (fun _ => 0))), (z21, .inr (1, [.ref z22, .int 0])), (z22, .inl (G.2.1 1, 16, .inl (fun _ => 0))), (z16, .inr (1, [.ref z17, .int 0])), (z17, .inl (G.2.1 1, 16, .inl (fun _ => 0))), (z23, .inr (1, [.ref z24, .int 0])), (z24, .inl (G.2.1 1, 16, .inl (fun _ => 0))), (z18, .inr (1, [.ref z19, .int 0])), (z19, .inl (G.2.1 1, 16, .inl (fun _ => 0))), (z25, .inr (1, [.ref z26, .int 0])), (z26, .inl (G.2.1 1, 16, .inl (fun _ => 0))), (z27, .inr (5, [.ref z28, .int 0])), (z28, .inl (G.2.1 1, 6, .inl (upd (upd (upd (upd (upd (upd (fun _ => 0) 0 31) 1 31) 2 31) 3 31) 4 31) 5 31))), (z29, .inr (5, [.ref z30, .int 0])), (z30, .inl (G.2.1 1, 6, .inl (upd (upd (upd (upd (upd (upd (fun _ => 0) 0 31) 1 31) 2 31) 3 31) 4 31) 5 31))), (z31, .inr (4, [.ref z32, .ref z33, .ref z34, .ref z36, .int 0])), (z32, .inl (G.2.1 2, 328, .inr (.inl (fun _ => 0)))), (z33, .inl (G.2.1 2, 8, .inr (.inl (fun _ => 0)))), (z34, .inr (1, [.ref z35, .int 0])), (z35, .inl (G.2.1 1, 128, .inl (fun _ => 0))), (z36, .inr (1, [.ref z37, .int 0])), (z37, .inl (G.2.1 1, 128, .inl (fun _ => 0))), (z38, .inr (1, [.ref z39, .int 0])), (z39, .inl (G.2.1 1, 128, .inl (fun _ => 0))), (z40, .inr (0, [.long 0]))] ++ [(z41, .inr (7, [.int 0, .null, .null, .int 0, .null, .null, .int 0, .null, .null, .null, .int 0, .null, .int 0, .null, .int 0, .null, .null, .long 0, .null, .int 0, .int 0, .int 0, .null, .null, .null, .null, .null, .null, .null, .long 0]))]) _ _
  refine n_callE (E' := fun _ => True) (M := mLw nm) (D := (G.2.2.1, zty G)) (R := room_1) (pc := 12) (kc := 42) (ks := 1004) (stk := [.ref z41]) (wr := [(z0, .inr (6, [.ref z1, .ref z3, .ref z8, .ref z13, .ref z20, .ref z27, .ref z29, .ref z31, .ref z38, .ref z40, .int 0, .int 0])), (z1, .inr (2, [.ref z2, .int 0])), (z2, .inl (G.2.1 1, 24, .inl (fun _ => 0))), (z3, .inr (3, [.ref z4, .ref z5, .ref z6, .ref z7, .int 0])), (z4, .inl (G.2.1 1, 6, .inl (fun _ => 0))), (z5, .inl (G.2.1 1, 12, .inl (fun _ => 0))), (z6, .inl (G.2.1 1, 7, .inl (fun _ => 0))), (z7, .inl (G.2.1 1, 7, .inl (fun _ => 0))), (z8, .inr (3, [.ref z9, .ref z10, .ref z11, .ref z12, .int 0])), (z9, .inl (G.2.1 1, 6, .inl (fun _ => 0))), (z10, .inl (G.2.1 1, 12, .inl (fun _ => 0))), (z11, .inl (G.2.1 1, 7, .inl (fun _ => 0))), (z12, .inl (G.2.1 1, 7, .inl (fun _ => 0))), (z13, .inl (G.2.1 4, 3, .inr (.inr (.inr (.inr (va_up (va_up (va_up (fun _ => none) 0 (some z14)) 1 (some z16)) 2 (some z18))))))), (z20, .inl (G.2.1 4, 3, .inr (.inr (.inr (.inr (va_up (va_up (va_up (fun _ => none) 0 (some z21)) 1 (some z23)) 2 (some z25))))))), (z14, .inr (1, [.ref z15, .int 0])), (z15, .inl (G.2.1 1, 16, .inl (fun _ => 0))), (z21, .inr (1, [.ref z22, .int 0])), (z22, .inl (G.2.1 1, 16, .inl (fun _ => 0))), (z16, .inr (1, [.ref z17, .int 0])), (z17, .inl (G.2.1 1, 16, .inl (fun _ => 0))), (z23, .inr (1, [.ref z24, .int 0])), (z24, .inl (G.2.1 1, 16, .inl (fun _ => 0))), (z18, .inr (1, [.ref z19, .int 0])), (z19, .inl (G.2.1 1, 16, .inl (fun _ => 0))), (z25, .inr (1, [.ref z26, .int 0])), (z26, .inl (G.2.1 1, 16, .inl (fun _ => 0))), (z27, .inr (5, [.ref z28, .int 0])), (z28, .inl (G.2.1 1, 6, .inl (upd (upd (upd (upd (upd (upd (fun _ => 0) 0 31) 1 31) 2 31) 3 31) 4 31) 5 31))), (z29, .inr (5, [.ref z30, .int 0])), (z30, .inl (G.2.1 1, 6, .inl (upd (upd (upd (upd (upd (upd (fun _ => 0) 0 31) 1 31) 2 31) 3 31) 4 31) 5 31))), (z31, .inr (4, [.ref z32, .ref z33, .ref z34, .ref z36, .int 0])), (z32, .inl (G.2.1 2, 328, .inr (.inl (fun _ => 0)))), (z33, .inl (G.2.1 2, 8, .inr (.inl (fun _ => 0)))), (z34, .inr (1, [.ref z35, .int 0])), (z35, .inl (G.2.1 1, 128, .inl (fun _ => 0))), (z36, .inr (1, [.ref z37, .int 0])), (z37, .inl (G.2.1 1, 128, .inl (fun _ => 0))), (z38, .inr (1, [.ref z39, .int 0])), (z39, .inl (G.2.1 1, 128, .inl (fun _ => 0))), (z40, .inr (0, [.long 0]))]) (As := []) (mc := 19) (ms := 5619) (fun s U h ha => trivial) (fun U g mk a h => trivial) dL_law_12 (n := 15) rfl (k_X7 G z41) me_X7_init rfl lk_L_12 rfl im_RX7 rfl (Nat.le_of_ble_eq_true rfl) (Nat.le_of_ble_eq_true rfl) (Nat.le_of_ble_eq_true rfl) (Nat.le_of_ble_eq_true rfl) (Nat.le_of_ble_eq_true rfl) (fun u hu => ?_)
  obtain ⟨z42, z43, z44, z45, z46, z47, z48, z49, z50, z51, z52, z53, z54, z55, z56, z57, z58, z59, z60, rfl⟩ := hu
  refine n_astore (L' := [(2, .ref z41), (1, .ref z0), (0, .ref b)]) dL_law_15 (n := 16) rfl (i := 2) rfl (Nat.le_of_ble_eq_true rfl) rfl ?_
  refine n_iconst 0 dL_law_16 (n := 17) rfl (by decide) ?_
  refine n_istore (L' := [(3, .int 0), (2, .ref z41), (1, .ref z0), (0, .ref b)]) dL_law_17 (n := 18) rfl (i := 3) rfl (Nat.le_of_ble_eq_true rfl) rfl ?_
  exact law_go hL G hG hG2 z0 z1 z2 z3 z4 z5 z6 z7 z8 z9 z10 z11 z12 z13 z14 z15 z16 z17 z18 z19 z20 z21 z22 z23 z24 z25 z26 z27 z28 z29 z30 z31 z32 z33 z34 z35 z36 z37 z38 z39 z40 z41 z42 z43 z44 z45 z46 z47 z48 z49 z50 z51 z52 z53 z54 z55 z56 z57 z58 z59 z60
set_option maxHeartbeats 16000000 in
set_option maxRecDepth 100000 in
theorem whole_start {p : Program} {e : Env} {s : State} {m : MethodId} {below : List Frame} {meth : Method} {c : Code} (l : Launch) (hflags : l.flags = flags0) {b L : Nat} {xs : Nat → Int32} (hL : L ≤ 2048) (C0 : lw_At p s m meth c b L xs) : W p l e room_1 s m #[Value.ref b] below meth c s.heap [] 0 0 (lw_Z below #[Value.ref b] s) (entryFrame m ([Value.ref b] : List Value).toArray 4) := by
  obtain ⟨hx, hb, hr, hml, hown, hts, hX, hbl, hlocks, hgv⟩ := id C0
  have htz : ∀ w ∈ zT, w.before #[Value.ref b] s = true := fun w hw => hts w (List.mem_filter.mp hw).1
  obtain ⟨c0, i0, k0⟩ := u_known (C := RX0) (T := TX0) (N := 1) (n := 1) htz iw_X0 (htz _ in_RX0)
  obtain ⟨c1, i1, k1⟩ := u_known (C := RX1) (T := TX1) (N := 2) (n := 2) htz iw_X1 (htz _ in_RX1)
  obtain ⟨c2, i2, k2⟩ := u_known (C := RX2) (T := TX2) (N := 2) (n := 2) htz iw_X2 (htz _ in_RX2)
  obtain ⟨c3, i3, k3⟩ := u_known (C := RX3) (T := TX3) (N := 5) (n := 5) htz iw_X3 (htz _ in_RX3)
  obtain ⟨c4, i4, k4⟩ := u_known (C := RX4) (T := TX4) (N := 5) (n := 5) htz iw_X4 (htz _ in_RX4)
  obtain ⟨c5, i5, k5⟩ := u_known (C := RX5) (T := TX5) (N := 2) (n := 2) htz iw_X5 (htz _ in_RX5)
  obtain ⟨c6, i6, k6⟩ := u_known (C := RX6) (T := TX6) (N := 12) (n := 12) htz iw_X6 (htz _ in_RX6)
  obtain ⟨c7, i7, k7⟩ := u_known (C := RX7) (T := TX7) (N := 30) (n := 30) htz iw_X7 (htz _ in_RX7)
  obtain ⟨cB, kB, pB, fB1, fB2, fB3⟩ := Cond.arrayClass_spec (htz _ ac_byte)
  obtain ⟨cI, kI, pI, fI1, fI2, fI3⟩ := Cond.arrayClass_spec (htz _ ac_int)
  obtain ⟨cL, kL, pL, fL1, fL2, fL3⟩ := Cond.arrayClass_spec (htz _ ac_long)
  obtain ⟨cZ, kZ, pZ, fZ1, fZ2, fZ3⟩ := Cond.arrayClass_spec (htz _ ac_boolean)
  obtain ⟨comp, cO, kO, o1, o2, o3, o4, o5⟩ := Cond.arrayOver_spec (n := "TreeActs$Letters") (hts (.arrayOver (.object "TreeActs$Letters")) (List.mem_of_getElem? (i := 115) (by decide +kernel)))
  have hK : va_K ((fun k => ([c0, c1, c2, c3, c4, c5, c6, c7] : List ClassId).getD k 0), (fun k => ([i0, i1, i2, i3, i4, i5, i6, i7] : List (Nat → Nat)).getD k (fun _ => 0))) vwCl [(cB, .byte), (cI, .int), (cL, .long), (cZ, .boolean), (cO, .object "TreeActs$Letters")] s := by
    refine ⟨fun k q hq => ?_, fun k q hq => ?_⟩
    · match k, hq with
      | 0, hq => cases hq; exact k0
      | 1, hq => cases hq; exact k1
      | 2, hq => cases hq; exact k2
      | 3, hq => cases hq; exact k3
      | 4, hq => cases hq; exact k4
      | 5, hq => cases hq; exact k5
      | 6, hq => cases hq; exact k6
      | 7, hq => cases hq; exact k7
      | k + 8, hq => simp at hq
    · match k, hq with
      | 0, hq => cases hq; exact ⟨fun n z => ⟨fun k h => (by cases h), kB, fB2, pB, fB3⟩, fB1⟩
      | 1, hq => cases hq; exact ⟨fun n z => ⟨fun k h => (by cases h), kI, fI2, pI, fI3⟩, fI1⟩
      | 2, hq => cases hq; exact ⟨fun n z => ⟨fun k h => (by cases h), kL, fL2, pL, fL3⟩, fL1⟩
      | 3, hq => cases hq; exact ⟨fun n z => ⟨fun k h => (by cases h), kZ, fZ2, pZ, fZ3⟩, fZ1⟩
      | 4, hq => cases hq; exact ⟨fun n z => ⟨fun k h => (by cases h), kO, o3, comp, o4⟩, kO, comp, o3, o4, o1, o5⟩
      | k + 5, hq => simp at hq
  have hl := lv_entry ([.ref b]) (n := 4) (Nat.le_of_ble_eq_true rfl)
  rw [lg_entry_eq]
  have h9 := law_make (nm := meth.name) (b := b) (L := L) (xs := xs) hL ((fun _ => 0), (fun t => ([cB, cI, cL, cZ, cO] : List ClassId).getD t 0), ((fun k => ([c0, c1, c2, c3, c4, c5, c6, c7] : List ClassId).getD k 0), (fun k => ([i0, i1, i2, i3, i4, i5, i6, i7] : List (Nat → Nat)).getD k (fun _ => 0))), L, xs) rfl rfl p l e s m #[Value.ref b] below meth c s.heap [] _ ⟨hx, hb, hr, hml, hown, htz, hlocks, rfl, hK, hX, hbl, hgv, hts⟩ (fun k q h => by simp at h) ⟨fun i j p q h => by simp at h, fun k q h => by simp at h⟩ va_S.rf hl
  exact W_mono9 h9 (fun t ⟨o, h1, h2, h3, h4⟩ => ⟨o, h1, h2, h3, h4⟩)
