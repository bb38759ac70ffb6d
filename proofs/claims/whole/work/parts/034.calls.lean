theorem zNW_form {w : Cond} (h : w ∈ zNW) : ∃ a i x hh, w = Cond.methodLinkNest a i x hh := by
  have h1 := (List.mem_filter.mp h).2
  cases w <;> first | exact ⟨_, _, _, _, rfl⟩ | cases h1
theorem zStat.warm {G : zG} {s U : State} {locs : List Loc} (hW : s.WarmedH U.vm) (hS : va_S (zAd G) s.heap U.heap locs) (h : zStat G s) : zStat G U := by
  have hk : ∀ a : Nat, a < s.heap.size → ¬ zAd G a → U.heap[a]? = s.heap[a]? := fun a h1 h2 => hS.2.1 a h1 h2
  obtain ⟨h1, h2, h3, h4, h5, h6, h7, h8⟩ := h
  refine ⟨va_Z.moved hW.alike (h1.kept hk), va_T.moved hW.alike (h2.kept hk), va_T.moved hW.alike (h3.kept hk), fun w hw => ?_, h5.warm hW, vk_S.moved hW.alike (h6.kept hk), va_Z.moved hW.alike (h7.kept hk), va_Zq.moved hW.alike (h8.kept hk)⟩
  obtain ⟨a, i, x, hh, rfl⟩ := zNW_form hw
  exact va_Nw.warmM hW (h4 _ hw)
theorem zStat.same {G : zG} {u U : State} (hv : U.vm = u.vm) (hh : U.heap = u.heap) (h : zStat G u) : zStat G U := by
  have ha : u.vm.Alike U.vm := by rw [hv]; exact Vm.Alike.refl _
  obtain ⟨h1, h2, h3, h4, h5, h6, h7, h8⟩ := h
  rw [← hh] at h1 h2 h3 h6 h7 h8
  refine ⟨va_Z.moved ha h1, va_T.moved ha h2, va_T.moved ha h3, fun w hw => ?_, h5.same hv, vk_S.moved ha h6, va_Z.moved ha h7, va_Zq.moved ha h8⟩
  obtain ⟨a, i, x, hh, rfl⟩ := zNW_form hw
  exact va_Nw.same rfl hv.symm (h4 _ hw)
theorem zPre_blind {G : zG} {st : zS} {av : List zV} : FrameBlind (va_Pc (av.map (zc G)) (zPre G st)) := by
  intro a U g mk h
  obtain ⟨h0, h1, h2, h3, h4, h5⟩ := h
  exact ⟨h0, h1, va_K.moved (u := U) (U := U.calling g mk a) (Vm.Alike.refl U.vm) h2, h3, zStat.same (u := U) (U := U.calling g mk a) rfl rfl h4, h5⟩
theorem zPre_at {G : zG} {st : zS} {av : List zV} {s U : State} {H : Heap} {locs : List Loc} (hK : va_K G.2.2.1 vwCl (zty G) s) (hI : zInj G) (hZ : zStat G s) (J : zJ st) (P : va_P G.2.2.1 vwCl (zw G st) H) (S : va_S (zAd G) s.heap H locs) (hU : U.heap = H) (hW : s.WarmedH U.vm) : va_Pc (av.map (zc G)) (zPre G st) (av.map (zc G)).toArray U := by
  subst hU
  exact ⟨rfl, P, va_K.moved hW.alike hK, hI, hZ.warm hW S, J⟩
theorem zT_good {w : Cond} (h : w ∈ zT) : (w.onTables && w.keeps) = true ∨ ∃ ty, w = .arrayClass ty := good_of_word (List.mem_filter.mp h).2
/-- what a call needs to know of the method that is called -/
def zMe (M : zM) (k : Nat) : Prop := zcode M ∈ zT ∧ Cond.initialized M.1.cls ∈ zT ∧ M.1.cls ≠ "java/lang/invoke/MethodHandle" ∧ M.1.cls ≠ "java/lang/invoke/VarHandle" ∧ (parseMethodDescriptor M.1.desc).map (fun d => d.parameters.length) = some k
def zMv (M : zM) (k ci : Nat) : Prop := zMe M k ∧ Cond.instanceMethod M.1 ∈ zT ∧ Cond.selects M.1.cls M.1 M.1 ∈ zT ∧ ∃ (T : u_T) (N : Nat), vwCl[ci]? = some (M.1.cls, T, N)
def zMs (M : zM) (k : Nat) : Prop := zMe M k ∧ Cond.static M.1 ∈ zT
def zroom (M' : zM) (d' : Nat) (B : Room × Nat × Nat) : Prop := d' + 1 ≤ B.1.frames ∧ 8 + (M'.2.2.1 + 11) + 40 * d' ≤ B.1.locals ∧ B.2.1 ≤ B.1.cells ∧ B.2.2 ≤ B.1.slots
theorem zGood {M' : zM} (h : zcode M' ∈ zT) : GoodIn zT (zws M') := by
  intro w hw
  rcases List.mem_cons.mp hw with rfl | hw
  · exact ⟨h, zT_good h⟩
  · exact ⟨hw, zT_good hw⟩
theorem zCallB {M' : zM} {d' k ix : Nat} {own : String} {R : Room} {s : State} {args : Array Value} (hts : ∀ w ∈ zT, w.before args s = true) (hm : zMe M' k) (hl : Cond.methodLink own ix M'.1 ∈ zT) (h1 : d' + 1 ≤ R.frames) (h2 : 8 + (M'.2.2.1 + 11) + 40 * d' ≤ R.locals) : CallB R s args own ix M'.1 M'.2.1 M'.2.2.1 M'.2.2.2 (zws M') (zRm d') 0 0 k :=
  callB_of k hts (zGood hm.1) rfl rfl rfl (hts _ hm.2.1) (hts _ hl) hm.2.2 ⟨h1, h2⟩
theorem zcats {G : zG} (stk : List zV) : ((stk.map (zc G)).map fun v => v.category).sum = (stk.map zcat).sum := by
  rw [List.map_map]
  congr 1
  apply List.map_congr_left
  intro v _
  exact zc_cat G v
section ZK
variable {G : zG} {M : zM} {B : Room × Nat × Nat} {Q : List Frame → Array Value → State → State → Prop} {pc n : Nat} {L : List (Option zV)} {stk : List zV} {st : zS}
/-- a method begins -/
theorem z_enter {d : Nat} {av : List zV} {post : Option zV → zS → Prop} {L' : List (Option zV)} (hy : plainName M.1.cls = true) (hv : (lg_sl (av.map (zc G))).length ≤ M.2.2.1) (hL : ∃ r, zent av ++ List.replicate r none = L') (h : zWP G M d post 0 L' [] st) : zSem G M d av st post := by
  intro l
  refine Met.ofW (cc := M.2.1) (maxL := M.2.2.1) (ret := M.2.2.2) hy rfl ?_
  intro p e s m args below meth c s₁ Bd hml hvv
  obtain ⟨rfl, hP, hK, hI, hZ, hJ⟩ := hvv
  have hts := atoms_spec (ws := zws M) Bd.pre
  have hown : s.vm.findClass M.1.cls = some m.cls := findClass_of_methodNamed Bd.named
  have hl := lv_entry (av.map (zc G)) (n := M.2.2.1) hv
  rw [lg_entry_eq]
  obtain ⟨r, rfl⟩ := hL
  refine h p l e s m _ below meth c s.heap [] _ ⟨Bd.exec, Bd.bytes, Bd.returns, hml, hown, fun w hw => hts w (List.mem_cons_of_mem _ hw), Bd.notSynchronized, hK, hI, hZ⟩ hJ hP va_S.rf ?_
  refine ⟨hl.1, hl.2.1, fun i v hi => ?_⟩
  have hi' : (zent av)[i]? = some (some v) := by
    rcases Nat.lt_or_ge i (zent av).length with h1 | h1
    · rwa [List.getElem?_append_left h1] at hi
    · rw [List.getElem?_append_right h1] at hi
      have h2 := List.mem_of_getElem? hi
      rw [List.mem_replicate] at h2
      cases h2.2
  have := zent_ok (G := G) av 0 i v hi'
  rw [Nat.zero_add] at this
  exact hl.2.2 _ this
theorem z_fin {post : Option zV → zS → Prop} {r : Option zV} {s t : State} {H : Heap} {args : Array Value} {locs : List Loc} (h : post r st) (J : zJ st) (P : va_P G.2.2.1 vwCl (zw G st) H) (S : va_S (zAd G) s.heap H locs) (ht : t.heap = H) : zQ G post args s (.returned (r.map (zc G))) t :=
  ⟨⟨r, st, rfl, h, by rw [ht]; exact P, J⟩, S.F ht⟩
theorem z_ireturn {d : Nat} {post : Option zV → zS → Prop} {a : Int} (hd : decode M.2.1 pc = .ok (.ireturn, 1)) (hr : M.2.2.2 = some .int) (h : post (some (zI a)) st) : zWP G M d post pc L [zI a] st := by
  intro p l e s m args below meth c H locs ls F J P S hl
  obtain ⟨hx, hb, hr', hml, hown, hts, hlocks, hK, hI, hZ⟩ := F
  exact W.iret hx hb (hr'.trans hr) (fun t ht hW => z_fin (r := some (zI a)) h J P S ht) S.2.2 hd
theorem z_zreturn {d : Nat} {post : Option zV → zS → Prop} {a : Int} (hd : decode M.2.1 pc = .ok (.ireturn, 1)) (hr : M.2.2.2 = some .boolean) (ha : a = 0 ∨ a = 1) (h : post (some (zI a)) st) : zWP G M d post pc L [zI a] st := by
  intro p l e s m args below meth c H locs ls F J P S hl
  obtain ⟨hx, hb, hr', hml, hown, hts, hlocks, hK, hI, hZ⟩ := F
  exact W.zret hx hb (hr'.trans hr) (by rcases ha with rfl | rfl <;> rfl) (fun t ht hW => z_fin (r := some (zI a)) h J P S ht) S.2.2 hd
theorem z_nreturn {d : Nat} {ty : FieldType} {post : Option zV → zS → Prop} {a : Int} (hd : decode M.2.1 pc = .ok (.ireturn, 1)) (hr : M.2.2.2 = some ty) (ha : narrow ty (.int (Int32.ofInt a)) = .int (Int32.ofInt a)) (h : post (some (zI a)) st) : zWP G M d post pc L [zI a] st := by
  intro p l e s m args below meth c H locs ls F J P S hl
  obtain ⟨hx, hb, hr', hml, hown, hts, hlocks, hK, hI, hZ⟩ := F
  exact W.zret hx hb (hr'.trans hr) ha (fun t ht hW => z_fin (r := some (zI a)) h J P S ht) S.2.2 hd
theorem z_lreturn {d : Nat} {post : Option zV → zS → Prop} {a : Int} (hd : decode M.2.1 pc = .ok (.lreturn, 1)) (hr : M.2.2.2 = some .long) (h : post (some (zL a)) st) : zWP G M d post pc L [zL a] st := by
  intro p l e s m args below meth c H locs ls F J P S hl
  obtain ⟨hx, hb, hr', hml, hown, hts, hlocks, hK, hI, hZ⟩ := F
  exact W.lret hx hb (hr'.trans hr) (fun t ht hW => z_fin (r := some (zL a)) h J P S ht) S.2.2 hd
theorem z_return {d : Nat} {post : Option zV → zS → Prop} (hd : decode M.2.1 pc = .ok (.return_, 1)) (hr : M.2.2.2 = none) (h : post none st) : zWP G M d post pc L [] st := by
  intro p l e s m args below meth c H locs ls F J P S hl
  obtain ⟨hx, hb, hr', hml, hown, hts, hlocks, hK, hI, hZ⟩ := F
  exact W.vret hx hb (hr'.trans hr) (fun t ht hW => z_fin (r := none) h J P S ht) S.2.2 hd
/-- behind a call -/
theorem z_back {post : Option zV → zS → Prop} {p : Program} {l : Launch} {e : Env} {R : Room} {s : State} {m : MethodId} {args a : Array Value} {below : List Frame} {meth : Method} {c : Code} {H : Heap} {locs : List Loc} {cells slots : Nat} {Qs : State → Prop} {ls : Array Slot} {st0 rest : List Value}
    (hr : va_Run p l e R s m args below meth c H locs cells slots 0 0 (F0 m pc ls st0) rest (zQ G post a) (zAd G)) (hS : va_S (zAd G) s.heap H locs)
    (kk : ∀ (r : Option zV) (u : zS) (H1 : Heap) (locs1 : List Loc), post r u → va_P G.2.2.1 vwCl (zw G u) H1 → zJ u → va_S (zAd G) s.heap H1 locs1 → W p l e R s m args below meth c H1 locs1 cells slots Qs (F0 m (pc + 3) ls ((r.map (zc G)).toList ++ rest))) : W p l e R s m args below meth c H locs cells slots Qs (F0 m pc ls st0) := by
  intro T hT X
  obtain ⟨v, st₀, t, T', Lc, h0, X', hLc, e1, e2, ⟨⟨r, u, hv, hp, hP, hJ⟩, hz, hk⟩, stp⟩ := hr T hT X
  cases hv
  rw [h0] at hz hk
  obtain ⟨t2, a1, b1⟩ := kk r u T'.heap (locs ++ Lc) hp (by rw [e1]; exact hP) hJ
    ⟨Nat.le_trans hS.1 (by rw [e1]; exact hz), fun q h1 h2 => by rw [e1, hk q (Nat.lt_of_lt_of_le h1 hS.1) h2]; exact hS.2.1 q h1 h2, fun q hq => by
      rcases List.mem_append.mp hq with h | h
      · exact hS.2.2 q h
      · exact hLc q h⟩ T' rfl X'
  exact ⟨t2, stp t2 a1, b1⟩
theorem z_callV {M' : zM} {d' k ix ci na : Nat} {fs As : List zV} {post : Option zV → zS → Prop} (hd : decode M.2.1 pc = .ok (.invokevirtual ix, 3)) (hn : pc + 3 = n) (hM : zSem G M' d' (zR k :: As) st post) (hm : zMv M' na ci) (hl : Cond.methodLink M.1.cls ix M'.1 ∈ zT) (hst : st k = zO ci fs) (hA : As.length = na) (hro : zroom M' d' B) (hs : (stk.map zcat).sum ≤ 8) (kk : ∀ r u, post r u → zW G M B Q n L (r.toList ++ stk) u) : zW G M B Q pc L (As.reverse ++ zR k :: stk) st := by
  intro p l e s m args below meth c H locs ls F J P S hls
  have F' := F
  obtain ⟨hx, hb, hr, hml, hown, hts, hlocks, hK, hI, hZ⟩ := F'
  obtain ⟨hme, hin, hse, T, N, hcl⟩ := hm
  subst hn
  obtain ⟨r1, r2, r3, r4⟩ := hro
  refine z_back (post := post) (rest := stk.map (zc G)) (a := (Value.ref (G.1 k) :: As.map (zc G)).toArray) (va_runV (C := M'.1.cls) (As := As.map (zc G)) (b := G.1 k) ⟨hx, hb, hml, hown, hts⟩ (hM l) ⟨zCallB hts hme hl r1 r2, hts _ hin, hts _ hse⟩ ⟨zPre_blind, va_recv hK P hcl (zw_obj J hst), fun U hU hW => zPre_at (av := zR k :: As) hK hI hZ J P S hU hW⟩ rfl (by rw [List.length_map]; exact hA) hls.1 (by simp [List.map_reverse]; rfl) (lv_room (by rw [zcats]; exact hs)) hd ⟨r3, r4⟩) S ?_
  intro r u H1 locs1 hp hP hJ hS1
  have := kk r u hp p l e s m args below meth c H1 locs1 ls F hJ hP hS1 hls
  rw [List.map_append] at this
  cases r <;> exact this
theorem z_callS {M' : zM} {d' ix na : Nat} {As : List zV} {post : Option zV → zS → Prop} (hd : decode M.2.1 pc = .ok (.invokestatic ix, 3)) (hn : pc + 3 = n) (hM : zSem G M' d' As st post) (hm : zMs M' na) (hl : Cond.methodLink M.1.cls ix M'.1 ∈ zT) (hA : As.length = na) (hro : zroom M' d' B) (hs : (stk.map zcat).sum ≤ 8) (kk : ∀ r u, post r u → zW G M B Q n L (r.toList ++ stk) u) : zW G M B Q pc L (As.reverse ++ stk) st := by
  intro p l e s m args below meth c H locs ls F J P S hls
  have F' := F
  obtain ⟨hx, hb, hr, hml, hown, hts, hlocks, hK, hI, hZ⟩ := F'
  obtain ⟨hme, hsta⟩ := hm
  subst hn
  obtain ⟨r1, r2, r3, r4⟩ := hro
  refine z_back (post := post) (rest := stk.map (zc G)) (a := (As.map (zc G)).toArray) (va_runS (As := As.map (zc G)) ⟨hx, hb, hml, hown, hts⟩ (hM l) ⟨zCallB hts hme hl r1 r2, hts _ hsta⟩ ⟨zPre_blind, fun U hU hW => zPre_at (av := As) hK hI hZ J P S hU hW⟩ rfl (by rw [List.length_map]; exact hA) hls.1 (by simp [List.map_reverse]) (lv_room (by rw [zcats]; exact hs)) hd ⟨r3, r4⟩) S ?_
  intro r u H1 locs1 hp hP hJ hS1
  have := kk r u hp p l e s m args below meth c H1 locs1 ls F hJ hP hS1 hls
  rw [List.map_append] at this
  cases r <;> exact this
theorem z_callN {M' : zM} {host : String} {d' ix na : Nat} {As : List zV} {post : Option zV → zS → Prop} (hd : decode M.2.1 pc = .ok (.invokestatic ix, 3)) (hn : pc + 3 = n) (hM : zSem G M' d' As st post) (hm : zMs M' na) (hl : Cond.methodLinkNest M.1.cls ix M'.1 host ∈ zNW) (hA : As.length = na) (hro : zroom M' d' B) (hs : (stk.map zcat).sum ≤ 8) (kk : ∀ r u, post r u → zW G M B Q n L (r.toList ++ stk) u) : zW G M B Q pc L (As.reverse ++ stk) st := by
  intro p l e s m args below meth c H locs ls F J P S hls
  have F' := F
  obtain ⟨hx, hb, hr, hml, hown, hts, hlocks, hK, hI, hZ⟩ := F'
  obtain ⟨hme, hsta⟩ := hm
  subst hn
  obtain ⟨r1, r2, r3, r4⟩ := hro
  refine z_back (post := post) (rest := stk.map (zc G)) (a := (As.map (zc G)).toArray) (va_runSN (As := As.map (zc G)) ⟨hx, hb, hml, hown, hts⟩ (hM l) ⟨va_cnB na hts (zGood hme.1) rfl rfl rfl (hZ.2.2.2.1 _ hl) (hts _ hme.2.1) hme.2.2 ⟨r1, r2⟩, hts _ hsta, trivial⟩ ⟨zPre_blind, fun U hU hW => zPre_at (av := As) hK hI hZ J P S hU hW⟩ rfl (by rw [List.length_map]; exact hA) hls.1 (by simp [List.map_reverse]) (lv_room (by rw [zcats]; exact hs)) hd ⟨r3, r4⟩) S ?_
  intro r u H1 locs1 hp hP hJ hS1
  have := kk r u hp p l e s m args below meth c H1 locs1 ls F hJ hP hS1 hls
  rw [List.map_append] at this
  cases r <;> exact this
/-- answers: an int, a long, nothing -/
def zpi (P : Int → zS → Prop) : Option zV → zS → Prop := fun r u => ∃ x, r = some (zI x) ∧ P x u
def zpl (P : Int → zS → Prop) : Option zV → zS → Prop := fun r u => ∃ x, r = some (zL x) ∧ P x u
def zpv (P : zS → Prop) : Option zV → zS → Prop := fun r u => r = none ∧ P u

theorem z_callV0i {M' : zM} {d' k ix ci : Nat} {fs : List zV} {P : Int → zS → Prop} (hd : decode M.2.1 pc = .ok (.invokevirtual ix, 3)) (hn : pc + 3 = n) (hm : zMv M' 0 ci) (hl : Cond.methodLink M.1.cls ix M'.1 ∈ zT) (hst : st k = zO ci fs) (hro : zroom M' d' B) (hs : (stk.map zcat).sum ≤ 8) (hM : zSem G M' d' (zR k :: []) st (zpi P)) (kk : ∀ (x : Int) (u : zS), P x u → zW G M B Q n L (zI x :: stk) u) : zW G M B Q pc L (zR k :: stk) st :=
  z_callV (As := []) hd hn hM hm hl hst rfl hro hs (fun r u h => by obtain ⟨x, rfl, hP⟩ := h; exact kk x u hP)

theorem z_callS0i {M' : zM} {d' ix : Nat} {P : Int → zS → Prop} (hd : decode M.2.1 pc = .ok (.invokestatic ix, 3)) (hn : pc + 3 = n) (hm : zMs M' 0) (hl : Cond.methodLink M.1.cls ix M'.1 ∈ zT) (hro : zroom M' d' B) (hs : (stk.map zcat).sum ≤ 8) (hM : zSem G M' d' [] st (zpi P)) (kk : ∀ (x : Int) (u : zS), P x u → zW G M B Q n L (zI x :: stk) u) : zW G M B Q pc L (stk) st :=
  z_callS (As := []) hd hn hM hm hl rfl hro hs (fun r u h => by obtain ⟨x, rfl, hP⟩ := h; exact kk x u hP)

theorem z_callN0i {M' : zM} {host : String} {d' ix : Nat} {P : Int → zS → Prop} (hd : decode M.2.1 pc = .ok (.invokestatic ix, 3)) (hn : pc + 3 = n) (hm : zMs M' 0) (hl : Cond.methodLinkNest M.1.cls ix M'.1 host ∈ zNW) (hro : zroom M' d' B) (hs : (stk.map zcat).sum ≤ 8) (hM : zSem G M' d' [] st (zpi P)) (kk : ∀ (x : Int) (u : zS), P x u → zW G M B Q n L (zI x :: stk) u) : zW G M B Q pc L (stk) st :=
  z_callN (As := []) hd hn hM hm hl rfl hro hs (fun r u h => by obtain ⟨x, rfl, hP⟩ := h; exact kk x u hP)

theorem z_callV0l {M' : zM} {d' k ix ci : Nat} {fs : List zV} {P : Int → zS → Prop} (hd : decode M.2.1 pc = .ok (.invokevirtual ix, 3)) (hn : pc + 3 = n) (hm : zMv M' 0 ci) (hl : Cond.methodLink M.1.cls ix M'.1 ∈ zT) (hst : st k = zO ci fs) (hro : zroom M' d' B) (hs : (stk.map zcat).sum ≤ 8) (hM : zSem G M' d' (zR k :: []) st (zpl P)) (kk : ∀ (x : Int) (u : zS), P x u → zW G M B Q n L (zL x :: stk) u) : zW G M B Q pc L (zR k :: stk) st :=
  z_callV (As := []) hd hn hM hm hl hst rfl hro hs (fun r u h => by obtain ⟨x, rfl, hP⟩ := h; exact kk x u hP)

theorem z_callS0l {M' : zM} {d' ix : Nat} {P : Int → zS → Prop} (hd : decode M.2.1 pc = .ok (.invokestatic ix, 3)) (hn : pc + 3 = n) (hm : zMs M' 0) (hl : Cond.methodLink M.1.cls ix M'.1 ∈ zT) (hro : zroom M' d' B) (hs : (stk.map zcat).sum ≤ 8) (hM : zSem G M' d' [] st (zpl P)) (kk : ∀ (x : Int) (u : zS), P x u → zW G M B Q n L (zL x :: stk) u) : zW G M B Q pc L (stk) st :=
  z_callS (As := []) hd hn hM hm hl rfl hro hs (fun r u h => by obtain ⟨x, rfl, hP⟩ := h; exact kk x u hP)

theorem z_callN0l {M' : zM} {host : String} {d' ix : Nat} {P : Int → zS → Prop} (hd : decode M.2.1 pc = .ok (.invokestatic ix, 3)) (hn : pc + 3 = n) (hm : zMs M' 0) (hl : Cond.methodLinkNest M.1.cls ix M'.1 host ∈ zNW) (hro : zroom M' d' B) (hs : (stk.map zcat).sum ≤ 8) (hM : zSem G M' d' [] st (zpl P)) (kk : ∀ (x : Int) (u : zS), P x u → zW G M B Q n L (zL x :: stk) u) : zW G M B Q pc L (stk) st :=
  z_callN (As := []) hd hn hM hm hl rfl hro hs (fun r u h => by obtain ⟨x, rfl, hP⟩ := h; exact kk x u hP)

theorem z_callV0v {M' : zM} {d' k ix ci : Nat} {fs : List zV} {P : zS → Prop} (hd : decode M.2.1 pc = .ok (.invokevirtual ix, 3)) (hn : pc + 3 = n) (hm : zMv M' 0 ci) (hl : Cond.methodLink M.1.cls ix M'.1 ∈ zT) (hst : st k = zO ci fs) (hro : zroom M' d' B) (hs : (stk.map zcat).sum ≤ 8) (hM : zSem G M' d' (zR k :: []) st (zpv P)) (kk : ∀ (u : zS), P u → zW G M B Q n L stk u) : zW G M B Q pc L (zR k :: stk) st :=
  z_callV (As := []) hd hn hM hm hl hst rfl hro hs (fun r u h => by obtain ⟨rfl, hP⟩ := h; exact kk u hP)

theorem z_callS0v {M' : zM} {d' ix : Nat} {P : zS → Prop} (hd : decode M.2.1 pc = .ok (.invokestatic ix, 3)) (hn : pc + 3 = n) (hm : zMs M' 0) (hl : Cond.methodLink M.1.cls ix M'.1 ∈ zT) (hro : zroom M' d' B) (hs : (stk.map zcat).sum ≤ 8) (hM : zSem G M' d' [] st (zpv P)) (kk : ∀ (u : zS), P u → zW G M B Q n L stk u) : zW G M B Q pc L (stk) st :=
  z_callS (As := []) hd hn hM hm hl rfl hro hs (fun r u h => by obtain ⟨rfl, hP⟩ := h; exact kk u hP)

theorem z_callN0v {M' : zM} {host : String} {d' ix : Nat} {P : zS → Prop} (hd : decode M.2.1 pc = .ok (.invokestatic ix, 3)) (hn : pc + 3 = n) (hm : zMs M' 0) (hl : Cond.methodLinkNest M.1.cls ix M'.1 host ∈ zNW) (hro : zroom M' d' B) (hs : (stk.map zcat).sum ≤ 8) (hM : zSem G M' d' [] st (zpv P)) (kk : ∀ (u : zS), P u → zW G M B Q n L stk u) : zW G M B Q pc L (stk) st :=
  z_callN (As := []) hd hn hM hm hl rfl hro hs (fun r u h => by obtain ⟨rfl, hP⟩ := h; exact kk u hP)

theorem z_callV1i {M' : zM} {d' k ix ci : Nat} {fs : List zV} {a0 : zV} {P : Int → zS → Prop} (hd : decode M.2.1 pc = .ok (.invokevirtual ix, 3)) (hn : pc + 3 = n) (hm : zMv M' 1 ci) (hl : Cond.methodLink M.1.cls ix M'.1 ∈ zT) (hst : st k = zO ci fs) (hro : zroom M' d' B) (hs : (stk.map zcat).sum ≤ 8) (hM : zSem G M' d' (zR k :: [a0]) st (zpi P)) (kk : ∀ (x : Int) (u : zS), P x u → zW G M B Q n L (zI x :: stk) u) : zW G M B Q pc L (a0 :: zR k :: stk) st :=
  z_callV (As := [a0]) hd hn hM hm hl hst rfl hro hs (fun r u h => by obtain ⟨x, rfl, hP⟩ := h; exact kk x u hP)

theorem z_callS1i {M' : zM} {d' ix : Nat} {a0 : zV} {P : Int → zS → Prop} (hd : decode M.2.1 pc = .ok (.invokestatic ix, 3)) (hn : pc + 3 = n) (hm : zMs M' 1) (hl : Cond.methodLink M.1.cls ix M'.1 ∈ zT) (hro : zroom M' d' B) (hs : (stk.map zcat).sum ≤ 8) (hM : zSem G M' d' [a0] st (zpi P)) (kk : ∀ (x : Int) (u : zS), P x u → zW G M B Q n L (zI x :: stk) u) : zW G M B Q pc L (a0 :: stk) st :=
  z_callS (As := [a0]) hd hn hM hm hl rfl hro hs (fun r u h => by obtain ⟨x, rfl, hP⟩ := h; exact kk x u hP)

theorem z_callN1i {M' : zM} {host : String} {d' ix : Nat} {a0 : zV} {P : Int → zS → Prop} (hd : decode M.2.1 pc = .ok (.invokestatic ix, 3)) (hn : pc + 3 = n) (hm : zMs M' 1) (hl : Cond.methodLinkNest M.1.cls ix M'.1 host ∈ zNW) (hro : zroom M' d' B) (hs : (stk.map zcat).sum ≤ 8) (hM : zSem G M' d' [a0] st (zpi P)) (kk : ∀ (x : Int) (u : zS), P x u → zW G M B Q n L (zI x :: stk) u) : zW G M B Q pc L (a0 :: stk) st :=
  z_callN (As := [a0]) hd hn hM hm hl rfl hro hs (fun r u h => by obtain ⟨x, rfl, hP⟩ := h; exact kk x u hP)

theorem z_callV1l {M' : zM} {d' k ix ci : Nat} {fs : List zV} {a0 : zV} {P : Int → zS → Prop} (hd : decode M.2.1 pc = .ok (.invokevirtual ix, 3)) (hn : pc + 3 = n) (hm : zMv M' 1 ci) (hl : Cond.methodLink M.1.cls ix M'.1 ∈ zT) (hst : st k = zO ci fs) (hro : zroom M' d' B) (hs : (stk.map zcat).sum ≤ 8) (hM : zSem G M' d' (zR k :: [a0]) st (zpl P)) (kk : ∀ (x : Int) (u : zS), P x u → zW G M B Q n L (zL x :: stk) u) : zW G M B Q pc L (a0 :: zR k :: stk) st :=
  z_callV (As := [a0]) hd hn hM hm hl hst rfl hro hs (fun r u h => by obtain ⟨x, rfl, hP⟩ := h; exact kk x u hP)

theorem z_callS1l {M' : zM} {d' ix : Nat} {a0 : zV} {P : Int → zS → Prop} (hd : decode M.2.1 pc = .ok (.invokestatic ix, 3)) (hn : pc + 3 = n) (hm : zMs M' 1) (hl : Cond.methodLink M.1.cls ix M'.1 ∈ zT) (hro : zroom M' d' B) (hs : (stk.map zcat).sum ≤ 8) (hM : zSem G M' d' [a0] st (zpl P)) (kk : ∀ (x : Int) (u : zS), P x u → zW G M B Q n L (zL x :: stk) u) : zW G M B Q pc L (a0 :: stk) st :=
  z_callS (As := [a0]) hd hn hM hm hl rfl hro hs (fun r u h => by obtain ⟨x, rfl, hP⟩ := h; exact kk x u hP)

theorem z_callN1l {M' : zM} {host : String} {d' ix : Nat} {a0 : zV} {P : Int → zS → Prop} (hd : decode M.2.1 pc = .ok (.invokestatic ix, 3)) (hn : pc + 3 = n) (hm : zMs M' 1) (hl : Cond.methodLinkNest M.1.cls ix M'.1 host ∈ zNW) (hro : zroom M' d' B) (hs : (stk.map zcat).sum ≤ 8) (hM : zSem G M' d' [a0] st (zpl P)) (kk : ∀ (x : Int) (u : zS), P x u → zW G M B Q n L (zL x :: stk) u) : zW G M B Q pc L (a0 :: stk) st :=
  z_callN (As := [a0]) hd hn hM hm hl rfl hro hs (fun r u h => by obtain ⟨x, rfl, hP⟩ := h; exact kk x u hP)

theorem z_callV1v {M' : zM} {d' k ix ci : Nat} {fs : List zV} {a0 : zV} {P : zS → Prop} (hd : decode M.2.1 pc = .ok (.invokevirtual ix, 3)) (hn : pc + 3 = n) (hm : zMv M' 1 ci) (hl : Cond.methodLink M.1.cls ix M'.1 ∈ zT) (hst : st k = zO ci fs) (hro : zroom M' d' B) (hs : (stk.map zcat).sum ≤ 8) (hM : zSem G M' d' (zR k :: [a0]) st (zpv P)) (kk : ∀ (u : zS), P u → zW G M B Q n L stk u) : zW G M B Q pc L (a0 :: zR k :: stk) st :=
  z_callV (As := [a0]) hd hn hM hm hl hst rfl hro hs (fun r u h => by obtain ⟨rfl, hP⟩ := h; exact kk u hP)

theorem z_callS1v {M' : zM} {d' ix : Nat} {a0 : zV} {P : zS → Prop} (hd : decode M.2.1 pc = .ok (.invokestatic ix, 3)) (hn : pc + 3 = n) (hm : zMs M' 1) (hl : Cond.methodLink M.1.cls ix M'.1 ∈ zT) (hro : zroom M' d' B) (hs : (stk.map zcat).sum ≤ 8) (hM : zSem G M' d' [a0] st (zpv P)) (kk : ∀ (u : zS), P u → zW G M B Q n L stk u) : zW G M B Q pc L (a0 :: stk) st :=
  z_callS (As := [a0]) hd hn hM hm hl rfl hro hs (fun r u h => by obtain ⟨rfl, hP⟩ := h; exact kk u hP)

theorem z_callN1v {M' : zM} {host : String} {d' ix : Nat} {a0 : zV} {P : zS → Prop} (hd : decode M.2.1 pc = .ok (.invokestatic ix, 3)) (hn : pc + 3 = n) (hm : zMs M' 1) (hl : Cond.methodLinkNest M.1.cls ix M'.1 host ∈ zNW) (hro : zroom M' d' B) (hs : (stk.map zcat).sum ≤ 8) (hM : zSem G M' d' [a0] st (zpv P)) (kk : ∀ (u : zS), P u → zW G M B Q n L stk u) : zW G M B Q pc L (a0 :: stk) st :=
  z_callN (As := [a0]) hd hn hM hm hl rfl hro hs (fun r u h => by obtain ⟨rfl, hP⟩ := h; exact kk u hP)

theorem z_callV2i {M' : zM} {d' k ix ci : Nat} {fs : List zV} {a0 a1 : zV} {P : Int → zS → Prop} (hd : decode M.2.1 pc = .ok (.invokevirtual ix, 3)) (hn : pc + 3 = n) (hm : zMv M' 2 ci) (hl : Cond.methodLink M.1.cls ix M'.1 ∈ zT) (hst : st k = zO ci fs) (hro : zroom M' d' B) (hs : (stk.map zcat).sum ≤ 8) (hM : zSem G M' d' (zR k :: [a0, a1]) st (zpi P)) (kk : ∀ (x : Int) (u : zS), P x u → zW G M B Q n L (zI x :: stk) u) : zW G M B Q pc L (a1 :: a0 :: zR k :: stk) st :=
  z_callV (As := [a0, a1]) hd hn hM hm hl hst rfl hro hs (fun r u h => by obtain ⟨x, rfl, hP⟩ := h; exact kk x u hP)

theorem z_callS2i {M' : zM} {d' ix : Nat} {a0 a1 : zV} {P : Int → zS → Prop} (hd : decode M.2.1 pc = .ok (.invokestatic ix, 3)) (hn : pc + 3 = n) (hm : zMs M' 2) (hl : Cond.methodLink M.1.cls ix M'.1 ∈ zT) (hro : zroom M' d' B) (hs : (stk.map zcat).sum ≤ 8) (hM : zSem G M' d' [a0, a1] st (zpi P)) (kk : ∀ (x : Int) (u : zS), P x u → zW G M B Q n L (zI x :: stk) u) : zW G M B Q pc L (a1 :: a0 :: stk) st :=
  z_callS (As := [a0, a1]) hd hn hM hm hl rfl hro hs (fun r u h => by obtain ⟨x, rfl, hP⟩ := h; exact kk x u hP)

theorem z_callN2i {M' : zM} {host : String} {d' ix : Nat} {a0 a1 : zV} {P : Int → zS → Prop} (hd : decode M.2.1 pc = .ok (.invokestatic ix, 3)) (hn : pc + 3 = n) (hm : zMs M' 2) (hl : Cond.methodLinkNest M.1.cls ix M'.1 host ∈ zNW) (hro : zroom M' d' B) (hs : (stk.map zcat).sum ≤ 8) (hM : zSem G M' d' [a0, a1] st (zpi P)) (kk : ∀ (x : Int) (u : zS), P x u → zW G M B Q n L (zI x :: stk) u) : zW G M B Q pc L (a1 :: a0 :: stk) st :=
  z_callN (As := [a0, a1]) hd hn hM hm hl rfl hro hs (fun r u h => by obtain ⟨x, rfl, hP⟩ := h; exact kk x u hP)

theorem z_callV2l {M' : zM} {d' k ix ci : Nat} {fs : List zV} {a0 a1 : zV} {P : Int → zS → Prop} (hd : decode M.2.1 pc = .ok (.invokevirtual ix, 3)) (hn : pc + 3 = n) (hm : zMv M' 2 ci) (hl : Cond.methodLink M.1.cls ix M'.1 ∈ zT) (hst : st k = zO ci fs) (hro : zroom M' d' B) (hs : (stk.map zcat).sum ≤ 8) (hM : zSem G M' d' (zR k :: [a0, a1]) st (zpl P)) (kk : ∀ (x : Int) (u : zS), P x u → zW G M B Q n L (zL x :: stk) u) : zW G M B Q pc L (a1 :: a0 :: zR k :: stk) st :=
  z_callV (As := [a0, a1]) hd hn hM hm hl hst rfl hro hs (fun r u h => by obtain ⟨x, rfl, hP⟩ := h; exact kk x u hP)

theorem z_callS2l {M' : zM} {d' ix : Nat} {a0 a1 : zV} {P : Int → zS → Prop} (hd : decode M.2.1 pc = .ok (.invokestatic ix, 3)) (hn : pc + 3 = n) (hm : zMs M' 2) (hl : Cond.methodLink M.1.cls ix M'.1 ∈ zT) (hro : zroom M' d' B) (hs : (stk.map zcat).sum ≤ 8) (hM : zSem G M' d' [a0, a1] st (zpl P)) (kk : ∀ (x : Int) (u : zS), P x u → zW G M B Q n L (zL x :: stk) u) : zW G M B Q pc L (a1 :: a0 :: stk) st :=
  z_callS (As := [a0, a1]) hd hn hM hm hl rfl hro hs (fun r u h => by obtain ⟨x, rfl, hP⟩ := h; exact kk x u hP)

theorem z_callN2l {M' : zM} {host : String} {d' ix : Nat} {a0 a1 : zV} {P : Int → zS → Prop} (hd : decode M.2.1 pc = .ok (.invokestatic ix, 3)) (hn : pc + 3 = n) (hm : zMs M' 2) (hl : Cond.methodLinkNest M.1.cls ix M'.1 host ∈ zNW) (hro : zroom M' d' B) (hs : (stk.map zcat).sum ≤ 8) (hM : zSem G M' d' [a0, a1] st (zpl P)) (kk : ∀ (x : Int) (u : zS), P x u → zW G M B Q n L (zL x :: stk) u) : zW G M B Q pc L (a1 :: a0 :: stk) st :=
  z_callN (As := [a0, a1]) hd hn hM hm hl rfl hro hs (fun r u h => by obtain ⟨x, rfl, hP⟩ := h; exact kk x u hP)

theorem z_callV2v {M' : zM} {d' k ix ci : Nat} {fs : List zV} {a0 a1 : zV} {P : zS → Prop} (hd : decode M.2.1 pc = .ok (.invokevirtual ix, 3)) (hn : pc + 3 = n) (hm : zMv M' 2 ci) (hl : Cond.methodLink M.1.cls ix M'.1 ∈ zT) (hst : st k = zO ci fs) (hro : zroom M' d' B) (hs : (stk.map zcat).sum ≤ 8) (hM : zSem G M' d' (zR k :: [a0, a1]) st (zpv P)) (kk : ∀ (u : zS), P u → zW G M B Q n L stk u) : zW G M B Q pc L (a1 :: a0 :: zR k :: stk) st :=
  z_callV (As := [a0, a1]) hd hn hM hm hl hst rfl hro hs (fun r u h => by obtain ⟨rfl, hP⟩ := h; exact kk u hP)

theorem z_callS2v {M' : zM} {d' ix : Nat} {a0 a1 : zV} {P : zS → Prop} (hd : decode M.2.1 pc = .ok (.invokestatic ix, 3)) (hn : pc + 3 = n) (hm : zMs M' 2) (hl : Cond.methodLink M.1.cls ix M'.1 ∈ zT) (hro : zroom M' d' B) (hs : (stk.map zcat).sum ≤ 8) (hM : zSem G M' d' [a0, a1] st (zpv P)) (kk : ∀ (u : zS), P u → zW G M B Q n L stk u) : zW G M B Q pc L (a1 :: a0 :: stk) st :=
  z_callS (As := [a0, a1]) hd hn hM hm hl rfl hro hs (fun r u h => by obtain ⟨rfl, hP⟩ := h; exact kk u hP)

theorem z_callN2v {M' : zM} {host : String} {d' ix : Nat} {a0 a1 : zV} {P : zS → Prop} (hd : decode M.2.1 pc = .ok (.invokestatic ix, 3)) (hn : pc + 3 = n) (hm : zMs M' 2) (hl : Cond.methodLinkNest M.1.cls ix M'.1 host ∈ zNW) (hro : zroom M' d' B) (hs : (stk.map zcat).sum ≤ 8) (hM : zSem G M' d' [a0, a1] st (zpv P)) (kk : ∀ (u : zS), P u → zW G M B Q n L stk u) : zW G M B Q pc L (a1 :: a0 :: stk) st :=
  z_callN (As := [a0, a1]) hd hn hM hm hl rfl hro hs (fun r u h => by obtain ⟨rfl, hP⟩ := h; exact kk u hP)

theorem z_callV3i {M' : zM} {d' k ix ci : Nat} {fs : List zV} {a0 a1 a2 : zV} {P : Int → zS → Prop} (hd : decode M.2.1 pc = .ok (.invokevirtual ix, 3)) (hn : pc + 3 = n) (hm : zMv M' 3 ci) (hl : Cond.methodLink M.1.cls ix M'.1 ∈ zT) (hst : st k = zO ci fs) (hro : zroom M' d' B) (hs : (stk.map zcat).sum ≤ 8) (hM : zSem G M' d' (zR k :: [a0, a1, a2]) st (zpi P)) (kk : ∀ (x : Int) (u : zS), P x u → zW G M B Q n L (zI x :: stk) u) : zW G M B Q pc L (a2 :: a1 :: a0 :: zR k :: stk) st :=
  z_callV (As := [a0, a1, a2]) hd hn hM hm hl hst rfl hro hs (fun r u h => by obtain ⟨x, rfl, hP⟩ := h; exact kk x u hP)

theorem z_callS3i {M' : zM} {d' ix : Nat} {a0 a1 a2 : zV} {P : Int → zS → Prop} (hd : decode M.2.1 pc = .ok (.invokestatic ix, 3)) (hn : pc + 3 = n) (hm : zMs M' 3) (hl : Cond.methodLink M.1.cls ix M'.1 ∈ zT) (hro : zroom M' d' B) (hs : (stk.map zcat).sum ≤ 8) (hM : zSem G M' d' [a0, a1, a2] st (zpi P)) (kk : ∀ (x : Int) (u : zS), P x u → zW G M B Q n L (zI x :: stk) u) : zW G M B Q pc L (a2 :: a1 :: a0 :: stk) st :=
  z_callS (As := [a0, a1, a2]) hd hn hM hm hl rfl hro hs (fun r u h => by obtain ⟨x, rfl, hP⟩ := h; exact kk x u hP)

theorem z_callN3i {M' : zM} {host : String} {d' ix : Nat} {a0 a1 a2 : zV} {P : Int → zS → Prop} (hd : decode M.2.1 pc = .ok (.invokestatic ix, 3)) (hn : pc + 3 = n) (hm : zMs M' 3) (hl : Cond.methodLinkNest M.1.cls ix M'.1 host ∈ zNW) (hro : zroom M' d' B) (hs : (stk.map zcat).sum ≤ 8) (hM : zSem G M' d' [a0, a1, a2] st (zpi P)) (kk : ∀ (x : Int) (u : zS), P x u → zW G M B Q n L (zI x :: stk) u) : zW G M B Q pc L (a2 :: a1 :: a0 :: stk) st :=
  z_callN (As := [a0, a1, a2]) hd hn hM hm hl rfl hro hs (fun r u h => by obtain ⟨x, rfl, hP⟩ := h; exact kk x u hP)

theorem z_callV3l {M' : zM} {d' k ix ci : Nat} {fs : List zV} {a0 a1 a2 : zV} {P : Int → zS → Prop} (hd : decode M.2.1 pc = .ok (.invokevirtual ix, 3)) (hn : pc + 3 = n) (hm : zMv M' 3 ci) (hl : Cond.methodLink M.1.cls ix M'.1 ∈ zT) (hst : st k = zO ci fs) (hro : zroom M' d' B) (hs : (stk.map zcat).sum ≤ 8) (hM : zSem G M' d' (zR k :: [a0, a1, a2]) st (zpl P)) (kk : ∀ (x : Int) (u : zS), P x u → zW G M B Q n L (zL x :: stk) u) : zW G M B Q pc L (a2 :: a1 :: a0 :: zR k :: stk) st :=
  z_callV (As := [a0, a1, a2]) hd hn hM hm hl hst rfl hro hs (fun r u h => by obtain ⟨x, rfl, hP⟩ := h; exact kk x u hP)

theorem z_callS3l {M' : zM} {d' ix : Nat} {a0 a1 a2 : zV} {P : Int → zS → Prop} (hd : decode M.2.1 pc = .ok (.invokestatic ix, 3)) (hn : pc + 3 = n) (hm : zMs M' 3) (hl : Cond.methodLink M.1.cls ix M'.1 ∈ zT) (hro : zroom M' d' B) (hs : (stk.map zcat).sum ≤ 8) (hM : zSem G M' d' [a0, a1, a2] st (zpl P)) (kk : ∀ (x : Int) (u : zS), P x u → zW G M B Q n L (zL x :: stk) u) : zW G M B Q pc L (a2 :: a1 :: a0 :: stk) st :=
  z_callS (As := [a0, a1, a2]) hd hn hM hm hl rfl hro hs (fun r u h => by obtain ⟨x, rfl, hP⟩ := h; exact kk x u hP)

theorem z_callN3l {M' : zM} {host : String} {d' ix : Nat} {a0 a1 a2 : zV} {P : Int → zS → Prop} (hd : decode M.2.1 pc = .ok (.invokestatic ix, 3)) (hn : pc + 3 = n) (hm : zMs M' 3) (hl : Cond.methodLinkNest M.1.cls ix M'.1 host ∈ zNW) (hro : zroom M' d' B) (hs : (stk.map zcat).sum ≤ 8) (hM : zSem G M' d' [a0, a1, a2] st (zpl P)) (kk : ∀ (x : Int) (u : zS), P x u → zW G M B Q n L (zL x :: stk) u) : zW G M B Q pc L (a2 :: a1 :: a0 :: stk) st :=
  z_callN (As := [a0, a1, a2]) hd hn hM hm hl rfl hro hs (fun r u h => by obtain ⟨x, rfl, hP⟩ := h; exact kk x u hP)

theorem z_callV3v {M' : zM} {d' k ix ci : Nat} {fs : List zV} {a0 a1 a2 : zV} {P : zS → Prop} (hd : decode M.2.1 pc = .ok (.invokevirtual ix, 3)) (hn : pc + 3 = n) (hm : zMv M' 3 ci) (hl : Cond.methodLink M.1.cls ix M'.1 ∈ zT) (hst : st k = zO ci fs) (hro : zroom M' d' B) (hs : (stk.map zcat).sum ≤ 8) (hM : zSem G M' d' (zR k :: [a0, a1, a2]) st (zpv P)) (kk : ∀ (u : zS), P u → zW G M B Q n L stk u) : zW G M B Q pc L (a2 :: a1 :: a0 :: zR k :: stk) st :=
  z_callV (As := [a0, a1, a2]) hd hn hM hm hl hst rfl hro hs (fun r u h => by obtain ⟨rfl, hP⟩ := h; exact kk u hP)

theorem z_callS3v {M' : zM} {d' ix : Nat} {a0 a1 a2 : zV} {P : zS → Prop} (hd : decode M.2.1 pc = .ok (.invokestatic ix, 3)) (hn : pc + 3 = n) (hm : zMs M' 3) (hl : Cond.methodLink M.1.cls ix M'.1 ∈ zT) (hro : zroom M' d' B) (hs : (stk.map zcat).sum ≤ 8) (hM : zSem G M' d' [a0, a1, a2] st (zpv P)) (kk : ∀ (u : zS), P u → zW G M B Q n L stk u) : zW G M B Q pc L (a2 :: a1 :: a0 :: stk) st :=
  z_callS (As := [a0, a1, a2]) hd hn hM hm hl rfl hro hs (fun r u h => by obtain ⟨rfl, hP⟩ := h; exact kk u hP)

theorem z_callN3v {M' : zM} {host : String} {d' ix : Nat} {a0 a1 a2 : zV} {P : zS → Prop} (hd : decode M.2.1 pc = .ok (.invokestatic ix, 3)) (hn : pc + 3 = n) (hm : zMs M' 3) (hl : Cond.methodLinkNest M.1.cls ix M'.1 host ∈ zNW) (hro : zroom M' d' B) (hs : (stk.map zcat).sum ≤ 8) (hM : zSem G M' d' [a0, a1, a2] st (zpv P)) (kk : ∀ (u : zS), P u → zW G M B Q n L stk u) : zW G M B Q pc L (a2 :: a1 :: a0 :: stk) st :=
  z_callN (As := [a0, a1, a2]) hd hn hM hm hl rfl hro hs (fun r u h => by obtain ⟨rfl, hP⟩ := h; exact kk u hP)

theorem z_callS4i {M' : zM} {d' ix : Nat} {a0 a1 a2 a3 : zV} {P : Int → zS → Prop} (hd : decode M.2.1 pc = .ok (.invokestatic ix, 3)) (hn : pc + 3 = n) (hm : zMs M' 4) (hl : Cond.methodLink M.1.cls ix M'.1 ∈ zT) (hro : zroom M' d' B) (hs : (stk.map zcat).sum ≤ 8) (hM : zSem G M' d' [a0, a1, a2, a3] st (zpi P)) (kk : ∀ (x : Int) (u : zS), P x u → zW G M B Q n L (zI x :: stk) u) : zW G M B Q pc L (a3 :: a2 :: a1 :: a0 :: stk) st :=
  z_callS (As := [a0, a1, a2, a3]) hd hn hM hm hl rfl hro hs (fun r u h => by obtain ⟨x, rfl, hP⟩ := h; exact kk x u hP)

theorem z_callN4i {M' : zM} {host : String} {d' ix : Nat} {a0 a1 a2 a3 : zV} {P : Int → zS → Prop} (hd : decode M.2.1 pc = .ok (.invokestatic ix, 3)) (hn : pc + 3 = n) (hm : zMs M' 4) (hl : Cond.methodLinkNest M.1.cls ix M'.1 host ∈ zNW) (hro : zroom M' d' B) (hs : (stk.map zcat).sum ≤ 8) (hM : zSem G M' d' [a0, a1, a2, a3] st (zpi P)) (kk : ∀ (x : Int) (u : zS), P x u → zW G M B Q n L (zI x :: stk) u) : zW G M B Q pc L (a3 :: a2 :: a1 :: a0 :: stk) st :=
  z_callN (As := [a0, a1, a2, a3]) hd hn hM hm hl rfl hro hs (fun r u h => by obtain ⟨x, rfl, hP⟩ := h; exact kk x u hP)

theorem z_callS4l {M' : zM} {d' ix : Nat} {a0 a1 a2 a3 : zV} {P : Int → zS → Prop} (hd : decode M.2.1 pc = .ok (.invokestatic ix, 3)) (hn : pc + 3 = n) (hm : zMs M' 4) (hl : Cond.methodLink M.1.cls ix M'.1 ∈ zT) (hro : zroom M' d' B) (hs : (stk.map zcat).sum ≤ 8) (hM : zSem G M' d' [a0, a1, a2, a3] st (zpl P)) (kk : ∀ (x : Int) (u : zS), P x u → zW G M B Q n L (zL x :: stk) u) : zW G M B Q pc L (a3 :: a2 :: a1 :: a0 :: stk) st :=
  z_callS (As := [a0, a1, a2, a3]) hd hn hM hm hl rfl hro hs (fun r u h => by obtain ⟨x, rfl, hP⟩ := h; exact kk x u hP)

theorem z_callN4l {M' : zM} {host : String} {d' ix : Nat} {a0 a1 a2 a3 : zV} {P : Int → zS → Prop} (hd : decode M.2.1 pc = .ok (.invokestatic ix, 3)) (hn : pc + 3 = n) (hm : zMs M' 4) (hl : Cond.methodLinkNest M.1.cls ix M'.1 host ∈ zNW) (hro : zroom M' d' B) (hs : (stk.map zcat).sum ≤ 8) (hM : zSem G M' d' [a0, a1, a2, a3] st (zpl P)) (kk : ∀ (x : Int) (u : zS), P x u → zW G M B Q n L (zL x :: stk) u) : zW G M B Q pc L (a3 :: a2 :: a1 :: a0 :: stk) st :=
  z_callN (As := [a0, a1, a2, a3]) hd hn hM hm hl rfl hro hs (fun r u h => by obtain ⟨x, rfl, hP⟩ := h; exact kk x u hP)

theorem z_callS4v {M' : zM} {d' ix : Nat} {a0 a1 a2 a3 : zV} {P : zS → Prop} (hd : decode M.2.1 pc = .ok (.invokestatic ix, 3)) (hn : pc + 3 = n) (hm : zMs M' 4) (hl : Cond.methodLink M.1.cls ix M'.1 ∈ zT) (hro : zroom M' d' B) (hs : (stk.map zcat).sum ≤ 8) (hM : zSem G M' d' [a0, a1, a2, a3] st (zpv P)) (kk : ∀ (u : zS), P u → zW G M B Q n L stk u) : zW G M B Q pc L (a3 :: a2 :: a1 :: a0 :: stk) st :=
  z_callS (As := [a0, a1, a2, a3]) hd hn hM hm hl rfl hro hs (fun r u h => by obtain ⟨rfl, hP⟩ := h; exact kk u hP)

theorem z_callN4v {M' : zM} {host : String} {d' ix : Nat} {a0 a1 a2 a3 : zV} {P : zS → Prop} (hd : decode M.2.1 pc = .ok (.invokestatic ix, 3)) (hn : pc + 3 = n) (hm : zMs M' 4) (hl : Cond.methodLinkNest M.1.cls ix M'.1 host ∈ zNW) (hro : zroom M' d' B) (hs : (stk.map zcat).sum ≤ 8) (hM : zSem G M' d' [a0, a1, a2, a3] st (zpv P)) (kk : ∀ (u : zS), P u → zW G M B Q n L stk u) : zW G M B Q pc L (a3 :: a2 :: a1 :: a0 :: stk) st :=
  z_callN (As := [a0, a1, a2, a3]) hd hn hM hm hl rfl hro hs (fun r u h => by obtain ⟨rfl, hP⟩ := h; exact kk u hP)

/-- returns with these forms -/
theorem z_ret_i {d : Nat} {P : Int → zS → Prop} {a : Int} (hd : decode M.2.1 pc = .ok (.ireturn, 1)) (hr : M.2.2.2 = some .int) (h : P a st) : zWP G M d (zpi P) pc L [zI a] st := z_ireturn hd hr ⟨a, rfl, h⟩
theorem z_ret_z {d : Nat} {P : Int → zS → Prop} {a : Int} (hd : decode M.2.1 pc = .ok (.ireturn, 1)) (hr : M.2.2.2 = some .boolean) (ha : a = 0 ∨ a = 1) (h : P a st) : zWP G M d (zpi P) pc L [zI a] st := z_zreturn hd hr ha ⟨a, rfl, h⟩
theorem z_ret_n {d : Nat} {ty : FieldType} {P : Int → zS → Prop} {a : Int} (hd : decode M.2.1 pc = .ok (.ireturn, 1)) (hr : M.2.2.2 = some ty) (ha : narrow ty (.int (Int32.ofInt a)) = .int (Int32.ofInt a)) (h : P a st) : zWP G M d (zpi P) pc L [zI a] st := z_nreturn hd hr ha ⟨a, rfl, h⟩
theorem z_ret_l {d : Nat} {P : Int → zS → Prop} {a : Int} (hd : decode M.2.1 pc = .ok (.lreturn, 1)) (hr : M.2.2.2 = some .long) (h : P a st) : zWP G M d (zpl P) pc L [zL a] st := z_lreturn hd hr ⟨a, rfl, h⟩
theorem z_ret_v {d : Nat} {P : zS → Prop} (hd : decode M.2.1 pc = .ok (.return_, 1)) (hr : M.2.2.2 = none) (h : P st) : zWP G M d (zpv P) pc L [] st := z_return hd hr ⟨rfl, h⟩
/-- weaker ends -/
theorem z_weaki {d : Nat} {av : List zV} {P P' : Int → zS → Prop} (h : zSem G M d av st (zpi P)) (hp : ∀ x u, P x u → P' x u) : zSem G M d av st (zpi P') := by
  intro l p e ha hc hk s m args below hf hap hP hK
  obtain ⟨k, o, h1, h2, h3, ⟨⟨r, u, q1, ⟨x, q2, q3⟩, q4⟩, q5⟩, q6⟩ := h l p e ha hc hk s m args below hf hap hP hK
  exact ⟨k, o, h1, h2, h3, ⟨⟨r, u, q1, ⟨x, q2, hp x u q3⟩, q4⟩, q5⟩, q6⟩
end ZK
