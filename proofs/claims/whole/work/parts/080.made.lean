/-! constructors: worlds as lists of cells -/
theorem cl_RL_7 : Cond.classLink RL 7 RX6 ∈ zT := z_in 70 (by decide +kernel) (by decide +kernel)
theorem in_RX6 : Cond.instantiable RX6 12 ∈ zT := z_in 71 (by decide +kernel) (by decide +kernel)
theorem im_RX6 : Cond.instanceMethod yX6_init ∈ zT := z_in 73 (by decide +kernel) (by decide +kernel)
theorem ob_RX6 : Cond.methodLink RX6 3 objectInit ∈ zT := z_in 75 (by decide +kernel) (by decide +kernel)
theorem ob_in : Cond.instanceMethod objectInit ∈ zT := z_in 76 (by decide +kernel) (by decide +kernel)
theorem ob_co : Cond.code objectInit ⟨#[0xb1]⟩ 1 none ∈ zT := z_in 77 (by decide +kernel) (by decide +kernel)
theorem cl_RX6_9 : Cond.classLink RX6 9 RX2 ∈ zT := z_in 78 (by decide +kernel) (by decide +kernel)
theorem in_RX2 : Cond.instantiable RX2 2 ∈ zT := z_in 79 (by decide +kernel) (by decide +kernel)
theorem im_RX2 : Cond.instanceMethod yX2_init ∈ zT := z_in 81 (by decide +kernel) (by decide +kernel)
theorem ob_RX2 : Cond.methodLink RX2 3 objectInit ∈ zT := z_in 83 (by decide +kernel) (by decide +kernel)
theorem ac_int : Cond.arrayClass .int ∈ zT := z_in 91 (by decide +kernel) (by decide +kernel)
theorem cl_RX6_16 : Cond.classLink RX6 16 RX3 ∈ zT := z_in 92 (by decide +kernel) (by decide +kernel)
theorem in_RX3 : Cond.instantiable RX3 5 ∈ zT := z_in 93 (by decide +kernel) (by decide +kernel)
theorem im_RX3 : Cond.instanceMethod yX3_init ∈ zT := z_in 95 (by decide +kernel) (by decide +kernel)
theorem ob_RX3 : Cond.methodLink RX3 3 objectInit ∈ zT := z_in 97 (by decide +kernel) (by decide +kernel)
theorem cl_RX6_26 : Cond.classLink RX6 26 RX1 ∈ zT := z_in 114 (by decide +kernel) (by decide +kernel)
theorem in_RX1 : Cond.instantiable RX1 2 ∈ zT := z_in 116 (by decide +kernel) (by decide +kernel)
theorem im_RX1 : Cond.instanceMethod yX1_init ∈ zT := z_in 118 (by decide +kernel) (by decide +kernel)
theorem ob_RX1 : Cond.methodLink RX1 3 objectInit ∈ zT := z_in 120 (by decide +kernel) (by decide +kernel)
theorem cl_RX6_38 : Cond.classLink RX6 38 RX5 ∈ zT := z_in 131 (by decide +kernel) (by decide +kernel)
theorem in_RX5 : Cond.instantiable RX5 2 ∈ zT := z_in 132 (by decide +kernel) (by decide +kernel)
theorem im_RX5 : Cond.instanceMethod yX5_init ∈ zT := z_in 134 (by decide +kernel) (by decide +kernel)
theorem ob_RX5 : Cond.methodLink RX5 3 objectInit ∈ zT := z_in 136 (by decide +kernel) (by decide +kernel)
theorem cl_RX6_48 : Cond.classLink RX6 48 RX4 ∈ zT := z_in 144 (by decide +kernel) (by decide +kernel)
theorem in_RX4 : Cond.instantiable RX4 5 ∈ zT := z_in 145 (by decide +kernel) (by decide +kernel)
theorem im_RX4 : Cond.instanceMethod yX4_init ∈ zT := z_in 147 (by decide +kernel) (by decide +kernel)
theorem ob_RX4 : Cond.methodLink RX4 3 objectInit ∈ zT := z_in 149 (by decide +kernel) (by decide +kernel)
theorem cl_RX4_18 : Cond.classLink RX4 18 RX1 ∈ zT := z_in 150 (by decide +kernel) (by decide +kernel)
theorem ac_long : Cond.arrayClass .long ∈ zT := z_in 168 (by decide +kernel) (by decide +kernel)
theorem cl_RX6_59 : Cond.classLink RX6 59 RX0 ∈ zT := z_in 169 (by decide +kernel) (by decide +kernel)
theorem in_RX0 : Cond.instantiable RX0 1 ∈ zT := z_in 170 (by decide +kernel) (by decide +kernel)
theorem im_RX0 : Cond.instanceMethod yX0_init ∈ zT := z_in 172 (by decide +kernel) (by decide +kernel)
theorem ob_RX0 : Cond.methodLink RX0 1 objectInit ∈ zT := z_in 174 (by decide +kernel) (by decide +kernel)
theorem ac_byte : Cond.arrayClass .byte ∈ zT := z_in 306 (by decide +kernel) (by decide +kernel)
theorem cl_RL_10 : Cond.classLink RL 10 RX7 ∈ zT := z_in 703 (by decide +kernel) (by decide +kernel)
theorem in_RX7 : Cond.instantiable RX7 30 ∈ zT := z_in 704 (by decide +kernel) (by decide +kernel)
theorem im_RX7 : Cond.instanceMethod yX7_init ∈ zT := z_in 706 (by decide +kernel) (by decide +kernel)
theorem ob_RX7 : Cond.methodLink RX7 1 objectInit ∈ zT := z_in 708 (by decide +kernel) (by decide +kernel)
theorem ac_boolean : Cond.arrayClass .boolean ∈ zT := z_in 800 (by decide +kernel) (by decide +kernel)
def nRm (d mc ms : Nat) : Room := { frames := d, cells := mc, slots := ms, locals := 40 * d }
abbrev nT : Type := va_G × List (ClassId × FieldType)
def nPre (D : nT) (E : State → Prop) (w0 : va_W) (sz : Nat) (U : State) : Prop := U.heap.size = sz ∧ va_P D.1 vwCl w0 U.heap ∧ va_K D.1 vwCl D.2 U ∧ E U ∧ va_D (fun _ => True) w0
def nQ (D : nT) (w0 : va_W) (sz : Nat) (post : va_W → Prop) : Array Value → State → Outcome → State → Prop := va_Qv (S := va_W) post (fun u t => va_P D.1 vwCl u t.heap ∧ va_D (va_A w0 sz) u) (va_A w0 sz)
def nCt (D : nT) (E : State → Prop) (M : zM) (d mc ms : Nat) (av : List Value) (w0 : va_W) (post : va_W → Prop) : Prop :=
  ∀ (l : Launch) (sz : Nat), Met l M.1 (zws M) (nRm d mc ms) (va_Pc av (nPre D E w0 sz)) (nQ D w0 sz post) mc ms (va_A w0 sz)
def nFx (D : nT) (E : State → Prop) (M : zM) (p : Program) (s : State) (m : MethodId) (args : Array Value) (meth : Method) (c : Code) : Prop :=
  p.tables.exec = Jvm.exec ∧ c.code = M.2.1 ∧ meth.sig.returnType = M.2.2.2 ∧ c.maxLocals = M.2.2.1 ∧ s.vm.findClass M.1.cls = some m.cls ∧ (∀ w ∈ zT, w.before args s = true) ∧ meth.locks = false ∧ meth.name = M.1.name ∧ va_K D.1 vwCl D.2 s ∧ E s
def nW (D : nT) (E : State → Prop) (M : zM) (R : Room) (w0 : va_W) (Q : List Frame → Array Value → State → State → Prop) (pc : Nat) (L : List (Nat × Value)) (stk : List Value) (ws : va_W) (kc ks : Nat) : Prop :=
  ∀ (p : Program) (l : Launch) (e : Env) (s : State) (m : MethodId) (args : Array Value) (below : List Frame) (meth : Method) (c : Code) (H : Heap) (locs : List Loc) (ls : Array Slot),
    nFx D E M p s m args meth c → va_P D.1 vwCl ws H → va_D (va_A w0 s.heap.size) ws → va_S (va_A w0 s.heap.size) s.heap H locs → lv_has ls M.2.2.1 L →
    W p l e R s m args below meth c H locs kc ks (Q below args s) (F0 m pc ls stk)
def nQm (D : nT) (w0 : va_W) (post : va_W → Prop) (mc ms : Nat) : List Frame → Array Value → State → State → Prop := fun below args s => MQ below (nQ D w0 s.heap.size post) args s mc ms (va_A w0 s.heap.size)
theorem va_nd_of : ∀ l : List Nat, l.Nodup → va_nd l = true
  | [], _ => rfl
  | a :: l, h => by
    rw [List.nodup_cons] at h
    simp only [va_nd, Bool.and_eq_true, decide_eq_true_eq]
    exact ⟨h.1, va_nd_of l h.2⟩
section ZN
variable {D : nT} {E : State → Prop} {M : zM} {R : Room} {w0 : va_W} {Q : List Frame → Array Value → State → State → Prop} {pc n : Nat} {L : List (Nat × Value)} {stk : List Value} {ws : va_W} {kc ks : Nat}
theorem n_enter {d mc ms : Nat} {av : List Value} {post : va_W → Prop} (hy : plainName M.1.cls = true) (hv : (lg_sl av).length ≤ M.2.2.1) (h : nW D E M (nRm d mc ms) w0 (nQm D w0 post mc ms) 0 (lv_args 0 av) [] w0 0 0) : nCt D E M d mc ms av w0 post := by
  intro l sz
  refine Met.ofW (cc := M.2.1) (maxL := M.2.2.1) (ret := M.2.2.2) hy rfl ?_
  intro p e s m args below meth c s₁ Bd hml hvv
  obtain ⟨rfl, hsz, hP, hK, hE, hD⟩ := hvv
  subst hsz
  have hts := atoms_spec (ws := zws M) Bd.pre
  have hown : s.vm.findClass M.1.cls = some m.cls := findClass_of_methodNamed Bd.named
  have hl := lv_entry av (n := M.2.2.1) hv
  rw [lg_entry_eq]
  exact h p l e s m _ below meth c s.heap [] _ ⟨Bd.exec, Bd.bytes, Bd.returns, hml, hown, fun w hw => hts w (List.mem_cons_of_mem _ hw), Bd.notSynchronized, (name_of_methodNamed Bd.named Bd.method).1, hK, hE⟩ hP hD.self va_S.rf hl
theorem n_ret {post : va_W → Prop} {mc ms : Nat} (hd : decode M.2.1 pc = .ok (.return_, 1)) (hr : M.2.2.2 = none) (h1 : kc ≤ mc) (h2 : ks ≤ ms) (h : post ws) : nW D E M (nRm n mc ms) w0 (nQm D w0 post mc ms) pc L [] ws kc ks := by
  intro p l e s m args below meth c H locs ls F P Dd S hl
  obtain ⟨hx, hb, hr', hml, hown, hts, hlocks, hnm, hK, hE⟩ := F
  refine W.widen (k := mc) (n := ms) h1 h2 ?_
  exact W.vret hx hb (hr'.trans hr) (fun t ht hW => ⟨⟨ws, rfl, h, by rw [ht]; exact P, Dd⟩, S.F ht⟩) S.2.2 hd
theorem n_aload {k : Fin 4} {i j a : Nat} (hd : decode M.2.1 pc = .ok (.aload_n k, 1)) (hn : pc + 1 = n) (hi : (k : Nat) = i) (hL : L[j]? = some (i, .ref a)) (kk : nW D E M R w0 Q n L (.ref a :: stk) ws kc ks) : nW D E M R w0 Q pc L stk ws kc ks := by
  intro p l e s m args below meth c H locs ls F P Dd S hl
  subst hn
  exact lv_aload_n F.1 F.2.1 hd hi (lv_at hl j hL) (kk p l e s m args below meth c H locs ls F P Dd S hl)
theorem n_iload {k : Fin 4} {i j : Nat} {x : Int32} (hd : decode M.2.1 pc = .ok (.iload_n k, 1)) (hn : pc + 1 = n) (hi : (k : Nat) = i) (hL : L[j]? = some (i, .int x)) (kk : nW D E M R w0 Q n L (.int x :: stk) ws kc ks) : nW D E M R w0 Q pc L stk ws kc ks := by
  intro p l e s m args below meth c H locs ls F P Dd S hl
  subst hn
  exact lv_iload_n F.1 F.2.1 hd hi (lv_at hl j hL) (kk p l e s m args below meth c H locs ls F P Dd S hl)
theorem n_iconst {x : Int} (v : Int32) (hd : decode M.2.1 pc = .ok (.iconst x, 1)) (hn : pc + 1 = n) (hv : Int32.ofInt x = v) (kk : nW D E M R w0 Q n L (.int v :: stk) ws kc ks) : nW D E M R w0 Q pc L stk ws kc ks := by
  intro p l e s m args below meth c H locs ls F P Dd S hl
  subst hn
  exact lv_iconst F.1 F.2.1 hd hv (kk p l e s m args below meth c H locs ls F P Dd S hl)
theorem n_bipush {x : Int} (v : Int32) (hd : decode M.2.1 pc = .ok (.bipush x, 2)) (hn : pc + 2 = n) (hv : (Int8.ofInt x).toInt32 = v) (kk : nW D E M R w0 Q n L (.int v :: stk) ws kc ks) : nW D E M R w0 Q pc L stk ws kc ks := by
  intro p l e s m args below meth c H locs ls F P Dd S hl
  subst hn
  exact lv_bipush F.1 F.2.1 hd hv (kk p l e s m args below meth c H locs ls F P Dd S hl)
theorem n_sipush {x : Int} (v : Int32) (hd : decode M.2.1 pc = .ok (.sipush x, 3)) (hn : pc + 3 = n) (hv : (Int16.ofInt x).toInt32 = v) (kk : nW D E M R w0 Q n L (.int v :: stk) ws kc ks) : nW D E M R w0 Q pc L stk ws kc ks := by
  intro p l e s m args below meth c H locs ls F P Dd S hl
  subst hn
  exact lv_sipush F.1 F.2.1 hd hv (kk p l e s m args below meth c H locs ls F P Dd S hl)
theorem n_lconst {x : Fin 2} (v : Int64) (hd : decode M.2.1 pc = .ok (.lconst x, 1)) (hn : pc + 1 = n) (hv : Int64.ofNat (x : Nat) = v) (kk : nW D E M R w0 Q n L (.long v :: stk) ws kc ks) : nW D E M R w0 Q pc L stk ws kc ks := by
  intro p l e s m args below meth c H locs ls F P Dd S hl
  subst hn
  exact lv_lconst F.1 F.2.1 hd hv (kk p l e s m args below meth c H locs ls F P Dd S hl)
theorem n_dup {v : Value} (hd : decode M.2.1 pc = .ok (.dup, 1)) (hn : pc + 1 = n) (hv : v.category = 1) (kk : nW D E M R w0 Q n L (v :: v :: stk) ws kc ks) : nW D E M R w0 Q pc L (v :: stk) ws kc ks := by
  intro p l e s m args below meth c H locs ls F P Dd S hl
  subst hn
  exact lv_dup F.1 F.2.1 hd hv (kk p l e s m args below meth c H locs ls F P Dd S hl)
theorem n_istore {k : Fin 4} {i : Nat} {x : Int32} {L' : List (Nat × Value)} (hd : decode M.2.1 pc = .ok (.istore_n k, 1)) (hn : pc + 1 = n) (hi : (k : Nat) = i) (h1 : i < M.2.2.1) (hl' : (i, Value.int x) :: L.filter (fun q => !(q.1 == i) && !(q.1 + 1 == i && q.2.category == 2)) = L') (kk : nW D E M R w0 Q n L' stk ws kc ks) : nW D E M R w0 Q pc L (.int x :: stk) ws kc ks := by
  intro p l e s m args below meth c H locs ls F P Dd S hl
  subst hn
  exact lv_istore_n F.1 F.2.1 hd hi hl h1 hl' (fun ls' h' => kk p l e s m args below meth c H locs ls' F P Dd S h')
theorem n_iinc {i j : Nat} {d : Int} {x : Int32} (v : Int32) {L' : List (Nat × Value)} (hd : decode M.2.1 pc = .ok (.iinc i d, 3)) (hn : pc + 3 = n) (hk : L[j]? = some (i, .int x)) (hv : x + Int32.ofInt d = v) (h1 : i < M.2.2.1) (hl' : (i, Value.int v) :: L.filter (fun q => !(q.1 == i) && !(q.1 + 1 == i && q.2.category == 2)) = L') (kk : nW D E M R w0 Q n L' stk ws kc ks) : nW D E M R w0 Q pc L stk ws kc ks := by
  intro p l e s m args below meth c H locs ls F P Dd S hl
  subst hn
  exact lv_iinc F.1 F.2.1 hd hl hk hv h1 hl' (fun ls' h' => kk p l e s m args below meth c H locs ls' F P Dd S h')
theorem n_goto {off : Int} {tg : Nat} (hd : decode M.2.1 pc = .ok (.goto off, 3)) (ht : (pc : Int) + off = (tg : Int)) (kk : nW D E M R w0 Q tg L stk ws kc ks) : nW D E M R w0 Q pc L stk ws kc ks := by
  intro p l e s m args below meth c H locs ls F P Dd S hl
  exact lv_goto F.1 F.2.1 hd ht (kk p l e s m args below meth c H locs ls F P Dd S hl)
theorem n_ge_t {x y : Int32} {off : Int} {tg : Nat} (hd : decode M.2.1 pc = .ok (.if_icmp .ge off, 3)) (ht : (pc : Int) + off = (tg : Int)) (h : y ≤ x) (kk : nW D E M R w0 Q tg L stk ws kc ks) : nW D E M R w0 Q pc L (.int y :: .int x :: stk) ws kc ks := by
  intro p l e s m args below meth c H locs ls F P Dd S hl
  exact lv_icmp_ge F.1 F.2.1 hd ht (fun _ => kk p l e s m args below meth c H locs ls F P Dd S hl) (fun z => absurd h z)
theorem n_ge_f {x y : Int32} {off : Int} {tg : Nat} (hd : decode M.2.1 pc = .ok (.if_icmp .ge off, 3)) (ht : (pc : Int) + off = (tg : Int)) (hn : pc + 3 = n) (h : ¬ y ≤ x) (kk : nW D E M R w0 Q n L stk ws kc ks) : nW D E M R w0 Q pc L (.int y :: .int x :: stk) ws kc ks := by
  intro p l e s m args below meth c H locs ls F P Dd S hl
  subst hn
  exact lv_icmp_ge F.1 F.2.1 hd ht (fun z => absurd z h) (fun _ => kk p l e s m args below meth c H locs ls F P Dd S hl)
theorem n_obj {ix a : Nat} (hd : decode M.2.1 pc = .ok (.invokespecial ix, 3)) (hn : pc + 3 = n) (hl0 : Cond.methodLink M.1.cls ix objectInit ∈ zT) (hr1 : 1 ≤ R.frames) (hr2 : (stk.map fun v => v.category).sum + 12 ≤ R.locals) (hst : stk = []) (kk : nW D E M R w0 Q n L stk ws kc ks) : nW D E M R w0 Q pc L (.ref a :: stk) ws kc ks := by
  intro p l e s m args below meth c H locs ls F P Dd S hl
  have kk := kk p l e s m args below meth c H locs ls F P Dd S hl
  obtain ⟨hx, hb, hr', hml, hown, hts, hlocks, hnm, hK, hE⟩ := F
  subst hn hst
  refine W.objInit hx hb hown (hts _ hl0) (hts _ ob_in) (hts _ ob_co) rfl (by rw [hml]; exact hl.1) rfl hd hr1 hr2 ?_
  exact W.eq (g2 := F0 m (pc + 3) ls []) rfl kk
theorem n_new {ix ci N : Nat} {C : String} {T : u_T} (ty : Nat → FieldType) {fs : List Value} (hd : decode M.2.1 pc = .ok (.new ix, 3)) (hn : pc + 3 = n) (hc : vwCl[ci]? = some (C, T, N)) (hin : ∀ w ∈ u_ws C T N, w ∈ zT) (hty : ∀ k, k < N → parseFieldDescriptor (T k).2.2.1 = some (ty k)) (hcl : Cond.classLink M.1.cls ix C ∈ zT) (hi : Cond.instantiable C N ∈ zT) (hini : Cond.initialized C ∈ zT) (hfs : ∀ j, j < N → defaultValue (ty j) = vp_V fs j) (h1 : kc + 1 ≤ R.cells) (h2 : ks + N ≤ R.slots)
    (kk : ∀ q : Nat, nW D E M R w0 Q n L (.ref q :: stk) (ws ++ [(q, .inr (ci, fs))]) (kc + 1) (ks + N)) : nW D E M R w0 Q pc L stk ws kc ks := by
  intro p l e s m args below meth c H locs ls F P Dd S hl
  have F' := F
  obtain ⟨hx, hb, hr', hml, hown, hts, hlocks, hnm, hK, hE⟩ := F'
  subst hn
  exact va_new (ci := ci) (fs := fs) (C := C) (T := T) (N := N) hx hb hts hin ty hty hown (hts _ hcl) (hts _ hi) (hts _ hini) hK P Dd S (fun q h => Or.inr h) hc hfs h1 h2 hd (fun q H1 P1 D1 S1 => kk q p l e s m args below meth c H1 locs ls F P1 D1 S1 hl)
theorem n_newa {atype : ArrayType} {ty : FieldType} {t0 N : Nat} {cA : ClassId} {a0 : vp_A} {x : Int32} (hd : decode M.2.1 pc = .ok (.newarray atype, 2)) (hn : pc + 2 = n) (hac : Cond.arrayClass (newarray.typeOf atype) ∈ zT) (hty : newarray.typeOf atype = ty) (ht : D.2[t0]? = some (cA, ty)) (hra : ∀ U, va_RA U cA ty → U.vm.findClass ("[" ++ ty.toString) = some cA) (ha : ∀ cA : ClassId, vp_cell cA a0 = arrV cA N (fun _ => defaultValue ty)) (hx0 : ¬ x < 0) (hN : x.toNatClampNeg = N) (hbytes : N * componentBytes ty ≤ 536870912) (h1 : kc + 1 ≤ R.cells) (h2 : ks + N ≤ R.slots)
    (kk : ∀ q : Nat, nW D E M R w0 Q n L (.ref q :: stk) (ws ++ [(q, .inl (cA, a0))]) (kc + 1) (ks + N)) : nW D E M R w0 Q pc L (.int x :: stk) ws kc ks := by
  intro p l e s m args below meth c H locs ls F P Dd S hl
  have F' := F
  obtain ⟨hx, hb, hr', hml, hown, hts, hlocks, hnm, hK, hE⟩ := F'
  subst hn hty
  refine va_newaK hx hb (hts _ hac) rfl hd rfl hx0 hN hbytes h1 h2 rfl fun H1 cB e1 z1 o1 hAr hNm => ?_
  have hcc : cB = cA := Option.some.inj (hNm.symm.trans (hra s (hK.2 t0 _ ht).2))
  subst hcc
  have hk : ∀ (k : Nat) (x : Nat × va_E), ws[k]? = some x → H1[x.1]? = H[x.1]? := fun k x hx => o1 x.1 ((P k x hx).lt)
  refine kk H.size p l e s m args below meth c H1 locs ls F ((P.kept hk).app (fun k x hx => ?_)) (Dd.push P rfl (Or.inr S.1)) ⟨Nat.le_trans S.1 (by omega), fun x h1 h2 => (o1 x (Nat.lt_of_lt_of_le h1 S.1)).trans (S.2.1 x h1 h2), S.2.2⟩ hl
  have hz : k < 1 := (List.getElem?_eq_some_iff.mp hx).1
  rw [show k = 0 by omega] at hx
  cases hx
  show H1[H.size]? = some (vp_cell _ _)
  rw [ha]
  exact e1
theorem n_putF {ix ci i q0 a N : Nat} {C : String} {T : u_T} (tf : Nat → FieldType) {fs : List Value} {v : Value} {ty : FieldType} (hd : decode M.2.1 pc = .ok (.putfield ix, 3)) (hn : pc + 3 = n) (he : ws[q0]? = some (a, .inr (ci, fs))) (hc : vwCl[ci]? = some (C, T, N)) (hi : i < N) (hin : ∀ w ∈ u_ws C T N, w ∈ zT) (hty : ∀ k, k < N → parseFieldDescriptor (T k).2.2.1 = some (tf k)) (hnm0 : ∀ a, a < N → ∀ b, b < N → a ≠ b → (T a).2.1 ≠ (T b).2.1) (hlk : Cond.fieldLink M.1.cls ix (T i).1 (T i).2.1 (T i).2.2.1 ∈ zT) (hfin : (T i).2.2.2 = true) (hM : M.1.name = "<init>") (hdecl : (T i).1 = M.1.cls) (hdt : parseFieldDescriptor (T i).2.2.1 = some ty) (hnr : narrow ty v = v) (hfit : fits ty v = true) (hlen : i < fs.length)
    (kk : nW D E M R w0 Q n L stk (ws.set q0 (a, .inr (ci, fs.set i v))) kc ks) : nW D E M R w0 Q pc L (v :: .ref a :: stk) ws kc ks := by
  intro p l e s m args below meth c H locs ls F P Dd S hl
  have F' := F
  obtain ⟨hx, hb, hr', hml, hown, hts, hlocks, hnm, hK, hE⟩ := F'
  subst hn
  exact va_putF (ci := ci) (v := v) (ty := ty) (C := C) (T := T) (N := N) hx hb hts hin tf hty hnm0 hown hK P Dd S q0 he hc i hi (hts _ hlk) (fun _ h9 => h9) hfin (hnm.trans hM) hdecl hdt hnr hfit hlen hd (fun H1 locs1 P1 D1 S1 => kk p l e s m args below meth c H1 locs1 ls F P1 D1 S1 hl)
theorem n_put {ix ci i q0 a N : Nat} {C : String} {T : u_T} (tf : Nat → FieldType) {fs : List Value} {v : Value} {ty : FieldType} (hd : decode M.2.1 pc = .ok (.putfield ix, 3)) (hn : pc + 3 = n) (he : ws[q0]? = some (a, .inr (ci, fs))) (hc : vwCl[ci]? = some (C, T, N)) (hi : i < N) (hin : ∀ w ∈ u_ws C T N, w ∈ zT) (hty : ∀ k, k < N → parseFieldDescriptor (T k).2.2.1 = some (tf k)) (hnm0 : ∀ a, a < N → ∀ b, b < N → a ≠ b → (T a).2.1 ≠ (T b).2.1) (hlk : Cond.fieldLink M.1.cls ix (T i).1 (T i).2.1 (T i).2.2.1 ∈ zT) (hfin : (T i).2.2.2 = false) (hdt : parseFieldDescriptor (T i).2.2.1 = some ty) (hnr : narrow ty v = v) (hfit : fits ty v = true) (hlen : i < fs.length)
    (kk : nW D E M R w0 Q n L stk (ws.set q0 (a, .inr (ci, fs.set i v))) kc ks) : nW D E M R w0 Q pc L (v :: .ref a :: stk) ws kc ks := by
  intro p l e s m args below meth c H locs ls F P Dd S hl
  have F' := F
  obtain ⟨hx, hb, hr', hml, hown, hts, hlocks, hnm, hK, hE⟩ := F'
  subst hn
  exact va_put (ci := ci) (v := v) (ty := ty) (C := C) (T := T) (N := N) hx hb hts hin tf hty hnm0 hown hK P Dd S q0 he hc i hi (hts _ hlk) (fun _ h9 => h9) hfin hdt hnr hfit hlen hd (fun H1 locs1 P1 D1 S1 => kk p l e s m args below meth c H1 locs1 ls F P1 D1 S1 hl)
theorem n_get {ix ci i q0 a : Nat} {fs : List Value} {v : Value} (hd : decode M.2.1 pc = .ok (.getfield ix, 3)) (hn : pc + 3 = n) (he : ws[q0]? = some (a, .inr (ci, fs))) (hf : zFd M.1.cls ix ci i) (hv : fs[i]? = some v) (kk : nW D E M R w0 Q n L (v :: stk) ws kc ks) : nW D E M R w0 Q pc L (.ref a :: stk) ws kc ks := by
  intro p l e s m args below meth c H locs ls F P Dd S hl
  have F' := F
  obtain ⟨hx, hb, hr', hml, hown, hts, hlocks, hnm, hK, hE⟩ := F'
  obtain ⟨C, T, N, hc, hi, hlk, hin⟩ := hf
  subst hn
  exact va_get hx hb hts hin hown hK P q0 he hc i hi (hts _ hlk) (fun _ h9 => h9) hv hd (kk p l e s m args below meth c H locs ls F P Dd S hl)
theorem n_iast {q0 t0 a N : Nat} {cA : ClassId} {f : Nat → Int32} {i x : Int32} (hd : decode M.2.1 pc = .ok (.iastore, 1)) (hn : pc + 1 = n) (he : ws[q0]? = some (a, .inl (cA, N, .inl f))) (ht : D.2[t0]? = some (cA, .int)) (hin : vp_in i N) (kk : nW D E M R w0 Q n L stk (ws.set q0 (a, .inl (cA, N, .inl (upd f i.toNatClampNeg x)))) kc ks) : nW D E M R w0 Q pc L (.int x :: .int i :: .ref a :: stk) ws kc ks := by
  intro p l e s m args below meth c H locs ls F P Dd S hl
  have F' := F
  obtain ⟨hx, hb, hr', hml, hown, hts, hlocks, hnm, hK, hE⟩ := F'
  subst hn
  exact va_iast hx hb hK P Dd S q0 t0 he ht hin hd (fun H1 locs1 P1 D1 S1 => kk p l e s m args below meth c H1 locs1 ls F P1 D1 S1 hl)
theorem n_aast {q0 t0 qk ci a N v : Nat} {cA : ClassId} {r : vw_C} {vs : List Value} {f : Nat → Option Nat} {i : Int32} (hd : decode M.2.1 pc = .ok (.aastore, 1)) (hn : pc + 1 = n) (he : ws[q0]? = some (a, .inl (cA, N, .inr (.inr (.inr (.inr f)))))) (ht : D.2[t0]? = some (cA, .object r.1)) (hv : ws[qk]? = some (v, .inr (ci, vs))) (hc : vwCl[ci]? = some r) (hin : vp_in i N) (kk : nW D E M R w0 Q n L stk (ws.set q0 (a, .inl (cA, N, .inr (.inr (.inr (.inr (va_up f i.toNatClampNeg (some v)))))))) kc ks) : nW D E M R w0 Q pc L (.ref v :: .int i :: .ref a :: stk) ws kc ks := by
  intro p l e s m args below meth c H locs ls F P Dd S hl
  have F' := F
  obtain ⟨hx, hb, hr', hml, hown, hts, hlocks, hnm, hK, hE⟩ := F'
  subst hn
  exact va_astq hx hb hK P Dd S q0 t0 qk ci he ht hv hc hin hd (fun H1 locs1 P1 D1 S1 => kk p l e s m args below meth c H1 locs1 ls F P1 D1 S1 hl)
theorem n_newq {ix t0 N : Nat} {C : String} {cA : ClassId} {x : Int32} (hd : decode M.2.1 pc = .ok (.anewarray ix, 3)) (hn : pc + 3 = n) (hcl : Cond.classLink M.1.cls ix C ∈ zT) (hE : ∀ s, E s → va_AO C s) (ht : D.2[t0]? = some (cA, .object C)) (hx0 : ¬ x < 0) (hN : x.toNatClampNeg = N) (hbytes : N * 4 ≤ 536870912) (h1 : kc + 1 ≤ R.cells) (h2 : ks + N ≤ R.slots)
    (kk : ∀ q : Nat, nW D E M R w0 Q n L (.ref q :: stk) (ws ++ [(q, .inl (cA, N, .inr (.inr (.inr (.inr (fun _ => none))))))]) (kc + 1) (ks + N)) : nW D E M R w0 Q pc L (.int x :: stk) ws kc ks := by
  intro p l e s m args below meth c H locs ls F P Dd S hl
  have F' := F
  obtain ⟨hx, hb, hr', hml, hown, hts, hlocks, hnm, hK, hEs⟩ := F'
  subst hn
  refine va_newq hx hb hown (hts _ hcl) (hE s hEs) hK P Dd S (fun q h => Or.inr h) hx0 hN hbytes h1 h2 hd (fun q cB H1 K1 P1 D1 S1 => ?_)
  have k1 : va_RA s cB (.object C) := (K1.2 D.2.length (cB, .object C) (by simp)).2
  have k2 : va_RA s cA (.object C) := (hK.2 t0 _ ht).2
  obtain ⟨kA, comp, a1, a2, a3, a4⟩ := k1
  obtain ⟨kB, comp2, b1, b2, b3, b4⟩ := k2
  have hcc : cB = cA := Option.some.inj (a4.symm.trans b4)
  subst hcc
  exact kk q p l e s m args below meth c H1 locs ls F P1 D1 S1 hl
theorem n_max {ix : Nat} {x y : Int32} (hd : decode M.2.1 pc = .ok (.invokestatic ix, 3)) (hn : pc + 3 = n) (hlk : Cond.methodLink M.1.cls ix yJ9_max_7cf53 ∈ zT) (hr1 : 1 ≤ R.frames) (hr2 : (stk.map fun v => v.category).sum + 13 ≤ R.locals) (hr3 : kc ≤ R.cells) (hr4 : ks ≤ R.slots) (kk : nW D E M R w0 Q n L (.int (if x < y then y else x) :: stk) ws kc ks) : nW D E M R w0 Q pc L (.int y :: .int x :: stk) ws kc ks := by
  intro p l e s m args below meth c H locs ls F P Dd S hl
  have F' := F
  obtain ⟨hx, hb, hr', hml, hown, hts, hlocks, hnm, hK, hE⟩ := F'
  subst hn
  exact va_mmax hx hb (hml.trans hl.1.symm) hown (by rw [← yJ9_max_eq]; exact hts _ hlk) (by rw [← yJ9_max_eq]; exact hts _ ms_J9_max_7cf53.2) (hts _ ini_RJ9) (by rw [← cJ9_max_eq]; exact hts _ co_J9_max_7cf53) hr1 hr2 hr3 hr4 hd (kk p l e s m args below meth c H locs ls F P Dd S hl)
theorem n_call {M' : zM} {d' mc ms ix na a : Nat} {x : va_E} {As : List Value} {wr : va_W} {post : va_W → Prop} (hd : decode M.2.1 pc = .ok (.invokespecial ix, 3)) (hn : pc + 3 = n) (hM : nCt D (fun _ => True) M' d' mc ms (.ref a :: As) [(a, x)] post) (hme : zMe M' na) (hret : M'.2.2.2 = none) (hlk : Cond.methodLink M.1.cls ix M'.1 ∈ zT) (hnm' : M'.1.name = "<init>") (him : Cond.instanceMethod M'.1 ∈ zT) (hA : As.length = na) (h1 : d' + 1 ≤ R.frames) (h2 : 8 + (M'.2.2.1 + 11) + 40 * d' ≤ R.locals) (h3 : kc + mc ≤ R.cells) (h4 : ks + ms ≤ R.slots) (hs : (stk.map fun v => v.category).sum ≤ 8)
    (kk : ∀ u, post u → nW D E M R w0 Q n L stk (wr ++ u) (kc + mc) (ks + ms)) : nW D E M R w0 Q pc L (As.reverse ++ .ref a :: stk) (wr ++ [(a, x)]) kc ks := by
  intro p l e s m args below meth c H locs ls F P Dd S hl
  have F' := F
  obtain ⟨hx, hb, hr', hml, hown, hts, hlocks, hnm, hK, hE⟩ := F'
  subst hn
  have hC : [wr.length].map (fun i => (wr ++ [(a, x)])[i]?) = [(a, x)].map some := by simp
  have hPc := P.sub (ws' := [(a, x)]) [wr.length] (by simp)
  have hDc := Dd.sub (ws' := [(a, x)]) [wr.length] (by simp [va_nd]) (by simp)
  have hFc := va_free (wc := [(a, x)]) Dd S (fun q h => Or.inr h) [wr.length] hC
  have hcb : CallB R s args M.1.cls ix M'.1 M'.2.1 M'.2.2.1 none (zws M') (nRm d' mc ms) mc ms na := by
    have := callB_of (R := R) (rm := nRm d' mc ms) (mc := mc) (ms := ms) na hts (zGood hme.1) rfl rfl rfl (hts _ hme.2.1) (hts _ hlk) hme.2.2 ⟨h1, h2⟩
    rw [hret] at this
    exact this
  refine va_callv (va_runI (As := As) (rest := stk) (b := a) ⟨hx, hb, hml, hown, hts⟩ (hM l H.size) ⟨hcb, hnm', hts _ him⟩ ⟨fun a U g mk q => by obtain ⟨q0, q1, qP, qK, qE, qD⟩ := q; exact ⟨q0, q1, qP, va_K.moved (u := U) (U := U.calling g mk a) (Vm.Alike.refl U.vm) qK, trivial, qD⟩, fun U hU hW => ⟨rfl, by rw [hU], by rw [hU]; exact hPc, va_K.moved hW.alike hK, trivial, hDc.weaken (fun _ _ _ _ => trivial)⟩⟩ rfl hA hl.1 rfl (lv_room hs) hd ⟨h3, h4⟩) S (fun q _ h => hFc q h) hFc (fun u t H1 locs1 ht hvm hw hB hz1 hk1 S1 => ?_)
  obtain ⟨hP1, hD1⟩ := hB
  rw [ht] at hP1
  obtain ⟨P2, D2⟩ := va_join (wr := wr) (w1 := u) P Dd [wr.length] (List.range wr.length) hC (by
    apply List.ext_getElem (by simp)
    intro i i1 i2
    simp at i1
    simp [List.getElem?_append_left i1]) (va_nd_of _ List.nodup_range) (by simp; omega) hk1 hFc hP1 hD1
  exact kk u hw p l e s m args below meth c H1 locs1 ls F P2 D2 S1 hl
end ZN
