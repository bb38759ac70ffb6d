/-! a layer over the kit's rows: the store is a function from cell numbers to cells, values are whole numbers -/
abbrev zV : Type := Int ⊕ (Int ⊕ Nat)
abbrev zI (a : Int) : zV := Sum.inl a
abbrev zL (a : Int) : zV := Sum.inr (Sum.inl a)
abbrev zR (k : Nat) : zV := Sum.inr (Sum.inr k)
abbrev zC : Type := (Nat × List zV) ⊕ (Nat × Nat × (Int → Int))
abbrev zO (ci : Nat) (fs : List zV) : zC := Sum.inl (ci, fs)
abbrev zA (t n : Nat) (f : Int → Int) : zC := Sum.inr (t, n, f)
abbrev zS : Type := Nat → zC
/-- the addresses, the classes of arrays, the classes, the script's length and ints -/
abbrev zG : Type := (Nat → Nat) × (Nat → ClassId) × va_G × Nat × (Nat → Int32)
def zc (G : zG) : zV → Value
  | .inl a => .int (Int32.ofInt a)
  | .inr (.inl a) => .long (Int64.ofInt a)
  | .inr (.inr k) => .ref (G.1 k)
def zcr (G : zG) (t : Nat) (f : Int → Int) : (Nat → Int32) ⊕ (Nat → Int64) ⊕ (Nat → UInt32) ⊕ (Nat → UInt64) ⊕ (Nat → Option Nat) :=
  if t = 2 then .inr (.inl (fun j => Int64.ofInt (f j))) else if t = 4 then .inr (.inr (.inr (.inr (fun j => some (G.1 (f j).toNat))))) else .inl (fun j => Int32.ofInt (f j))
def zcc (G : zG) : zC → va_E
  | .inl o => .inr (o.1, o.2.map (zc G))
  | .inr a => .inl (G.2.1 a.1, a.2.1, zcr G a.1 a.2.2)
abbrev zN : Nat := 61
def zw (G : zG) (st : zS) : va_W := (List.range zN).map (fun k => (G.1 k, zcc G (st k)))
def zu (st : zS) (k : Nat) (c : zC) : zS := fun j => if j = k then c else st j
def zf (f : Int → Int) (k v : Int) : Int → Int := fun j => if j = k then v else f j
def zty (G : zG) : List (ClassId × FieldType) := [(G.2.1 0, .byte), (G.2.1 1, .int), (G.2.1 2, .long), (G.2.1 3, .boolean), (G.2.1 4, .object "TreeActs$Letters")]
def zAd (G : zG) : Nat → Prop := fun q => ∃ k, k < zN ∧ q = G.1 k
def zInj (G : zG) : Prop := ∀ i j, i < zN → j < zN → G.1 i = G.1 j → i = j
def zJ (st : zS) : Prop := ∀ k, zN ≤ k → st k = zA 99 0 (fun _ => 0)
theorem zu_eq {st : zS} {k : Nat} {c : zC} : zu st k c k = c := if_pos rfl
theorem zu_ne {st : zS} {k j : Nat} {c : zC} (h : j ≠ k) : zu st k c j = st j := if_neg h
theorem zf_eq {f : Int → Int} {k v : Int} : zf f k v k = v := if_pos rfl
theorem zf_ne {f : Int → Int} {k j v : Int} (h : j ≠ k) : zf f k v j = f j := if_neg h
theorem zw_at {G : zG} {st : zS} {k : Nat} (h : k < zN) : (zw G st)[k]? = some (G.1 k, zcc G (st k)) := by
  simp [zw, List.getElem?_map, List.getElem?_range h]
theorem zw_set {G : zG} {st : zS} {k : Nat} {c : zC} (h : k < zN) : (zw G st).set k (G.1 k, zcc G c) = zw G (zu st k c) := by
  apply List.ext_getElem?
  intro j
  by_cases hj : j = k
  · subst hj
    rw [List.getElem?_set_self (by simpa [zw] using h), zw_at h, zu_eq]
  · rw [List.getElem?_set_ne (Ne.symm hj)]
    by_cases hn : j < zN
    · rw [zw_at hn, zw_at hn, zu_ne hj]
    · rw [List.getElem?_eq_none (by simp [zw]; omega), List.getElem?_eq_none (by simp [zw]; omega)]
theorem zw_D {G : zG} {st : zS} (hi : zInj G) : va_D (zAd G) (zw G st) := by
  have key : ∀ (k : Nat) (q : Nat × va_E), (zw G st)[k]? = some q → k < zN ∧ q.1 = G.1 k := by
    intro k q hk
    have hl : k < zN := by have := (List.getElem?_eq_some_iff.mp hk).1; simpa [zw] using this
    rw [zw_at hl] at hk
    cases hk
    exact ⟨hl, rfl⟩
  refine ⟨fun i j x y hx hy hxy => ?_, fun k q hk => ?_⟩
  · obtain ⟨a, b⟩ := key i x hx
    obtain ⟨c, d⟩ := key j y hy
    exact hi i j a c (by rw [← b, ← d, hxy])
  · obtain ⟨a, b⟩ := key k q hk
    exact ⟨k, a, b⟩
theorem zJ.lt {st : zS} (h : zJ st) {k : Nat} {ci : Nat} {fs : List zV} (e : st k = zO ci fs) : k < zN := by
  rcases Nat.lt_or_ge k zN with q | q
  · exact q
  · rw [h k q] at e; cases e
theorem zJ.lta {st : zS} (h : zJ st) {k t n : Nat} {f : Int → Int} (e : st k = zA t n f) (ht : t ≠ 99) : k < zN := by
  rcases Nat.lt_or_ge k zN with q | q
  · exact q
  · rw [h k q] at e; cases e; exact absurd rfl ht
theorem zJ.set {st : zS} (h : zJ st) {k : Nat} {c : zC} (hk : k < zN) : zJ (zu st k c) := fun j hj => by rw [zu_ne (by omega)]; exact h j hj
/-- the table of the sorts -/
def zsy (j : Int) : Int := if j = 0 then 22 else if j = 1 then 7 else if j = 2 then 4 else 24
/-- links among nest mates -/
def zNW : List Cond := lw_tbl.filter (fun w => match w with | .methodLinkNest .. => true | _ => false)
def zStat (G : zG) (U : State) : Prop :=
  va_Z RX6 "SORTS_OF_YES" "[I" (.ref (G.1 90)) (zAd G) U U.heap ∧ va_T .int (G.1 90) 4 (fun j => .int (Int32.ofInt (zsy j))) (zAd G) U U.heap ∧
  va_T .int (G.1 95) G.2.2.2.1 (fun j => .int (G.2.2.2.2 j)) (zAd G) U U.heap ∧ (∀ w ∈ zNW, va_Nw w U) ∧
  vk_R RX2 45 "sfwro" (G.1 91) U ∧ vk_S 1 [5] [[115, 102, 119, 114, 111]] (fun _ => G.1 91) (fun _ => G.1 92) (zAd G) U U.heap ∧
  va_Z RJ0 "COMPACT_STRINGS" "Z" (.int 1) (zAd G) U U.heap ∧ va_Zq RJ3 "SIOOBE_FORMATTER" "Ljava/util/function/BiFunction;" (zAd G) U U.heap
abbrev zM : Type := MethodName × ByteArray × Nat × Option FieldType
def zT : List Cond := lw_tbl.filter goodWord
def zRm (d : Nat) : Room := { frames := d, cells := 0, slots := 0, locals := 40 * d }
def zcode (M : zM) : Cond := .code M.1 M.2.1 M.2.2.1 M.2.2.2
def zws (M : zM) : List Cond := zcode M :: zT
def zPre (G : zG) (st : zS) (U : State) : Prop := va_P G.2.2.1 vwCl (zw G st) U.heap ∧ va_K G.2.2.1 vwCl (zty G) U ∧ zInj G ∧ zStat G U ∧ zJ st
def zQ (G : zG) (post : Option zV → zS → Prop) : Array Value → State → Outcome → State → Prop := fun _ s0 oc t =>
  (∃ (r : Option zV) (u : zS), oc = .returned (r.map (zc G)) ∧ post r u ∧ va_P G.2.2.1 vwCl (zw G u) t.heap ∧ zJ u) ∧ va_F (zAd G) s0 t
/-- a method's contract: from the store st, with these arguments, it comes back with an answer and a store that 'post' holds of -/
def zSem (G : zG) (M : zM) (d : Nat) (av : List zV) (st : zS) (post : Option zV → zS → Prop) : Prop :=
  ∀ l : Launch, Met l M.1 (zws M) (zRm d) (va_Pc (av.map (zc G)) (zPre G st)) (zQ G post) 0 0 (zAd G)
def zFx (G : zG) (M : zM) (p : Program) (s : State) (m : MethodId) (args : Array Value) (meth : Method) (c : Code) : Prop :=
  p.tables.exec = Jvm.exec ∧ c.code = M.2.1 ∧ meth.sig.returnType = M.2.2.2 ∧ c.maxLocals = M.2.2.1 ∧ s.vm.findClass M.1.cls = some m.cls ∧ (∀ w ∈ zT, w.before args s = true) ∧ meth.locks = false ∧
  va_K G.2.2.1 vwCl (zty G) s ∧ zInj G ∧ zStat G s
def zcat (v : zV) : Nat := match v with
  | .inr (.inl _) => 2
  | _ => 1
theorem zc_cat (G : zG) (v : zV) : (zc G v).category = zcat v := by
  rcases v with a | a | a <;> rfl
def zls (G : zG) (ls : Array Slot) (n : Nat) (L : List (Option zV)) : Prop := ls.size = n ∧ lv_wf ls ∧ ∀ (i : Nat) (v : zV), L[i]? = some (some v) → ls[i]? = some (.val (zc G v))
/-- the machine at a place of a method: from here it comes to Q -/
def zW (G : zG) (M : zM) (B : Room × Nat × Nat) (Q : List Frame → Array Value → State → State → Prop) (pc : Nat) (L : List (Option zV)) (stk : List zV) (st : zS) : Prop :=
  ∀ (p : Program) (l : Launch) (e : Env) (s : State) (m : MethodId) (args : Array Value) (below : List Frame) (meth : Method) (c : Code) (H : Heap) (locs : List Loc) (ls : Array Slot),
    zFx G M p s m args meth c → zJ st → va_P G.2.2.1 vwCl (zw G st) H → va_S (zAd G) s.heap H locs → zls G ls M.2.2.1 L →
    W p l e B.1 s m args below meth c H locs B.2.1 B.2.2 (Q below args s) (F0 m pc ls (stk.map (zc G)))
def zQm (G : zG) (post : Option zV → zS → Prop) : List Frame → Array Value → State → State → Prop := fun below args s => MQ below (zQ G post) args s 0 0 (zAd G)
abbrev zWP (G : zG) (M : zM) (d : Nat) (post : Option zV → zS → Prop) (pc : Nat) (L : List (Option zV)) (stk : List zV) (st : zS) : Prop := zW G M (zRm d, 0, 0) (zQm G post) pc L stk st
/-- locals as the kit lists them -/
def zas (G : zG) : Nat → List (Option zV) → List (Nat × Value)
  | _, [] => []
  | i, none :: r => zas G (i + 1) r
  | i, some v :: r => (i, zc G v) :: zas G (i + 1) r
theorem zas_mem {G : zG} : ∀ (L : List (Option zV)) (i : Nat) (q : Nat × Value), q ∈ zas G i L ↔ ∃ (j : Nat) (v : zV), L[j]? = some (some v) ∧ q = (i + j, zc G v)
  | [], i, q => by simp [zas]
  | none :: r, i, q => by
    rw [zas, zas_mem r (i + 1) q]
    constructor
    · rintro ⟨j, v, h1, h2⟩
      exact ⟨j + 1, v, by simpa using h1, by rw [h2]; congr 1; omega⟩
    · rintro ⟨j, v, h1, h2⟩
      cases j with
      | zero => simp at h1
      | succ j => exact ⟨j, v, by simpa using h1, by rw [h2]; congr 1; omega⟩
  | some w :: r, i, q => by
    rw [zas, List.mem_cons, zas_mem r (i + 1) q]
    constructor
    · rintro (h | ⟨j, v, h1, h2⟩)
      · exact ⟨0, w, rfl, h⟩
      · exact ⟨j + 1, v, by simpa using h1, by rw [h2]; congr 1; omega⟩
    · rintro ⟨j, v, h1, h2⟩
      cases j with
      | zero => simp at h1; subst h1; exact Or.inl h2
      | succ j => exact Or.inr ⟨j, v, by simpa using h1, by rw [h2]; congr 1; omega⟩
theorem zls.has {G : zG} {ls : Array Slot} {n : Nat} {L : List (Option zV)} (h : zls G ls n L) : lv_has ls n (zas G 0 L) := by
  refine ⟨h.1, h.2.1, fun q hq => ?_⟩
  obtain ⟨j, v, h1, rfl⟩ := (zas_mem L 0 q).mp hq
  simpa using h.2.2 j v h1
/-- a store of one slot -/
theorem zls.put1 {G : zG} {ls : Array Slot} {n i : Nat} {L L' : List (Option zV)} {v : zV} (h : lv_has ls n ((i, zc G v) :: (zas G 0 L).filter (fun q => !(q.1 == i) && !(q.1 + 1 == i && q.2.category == 2))))
    (hL : ∀ (j : Nat) (w : zV), L'[j]? = some (some w) → (j = i ∧ w = v) ∨ (j ≠ i ∧ L[j]? = some (some w) ∧ (j + 1 = i → zcat w = 1))) : zls G ls n L' := by
  refine ⟨h.1, h.2.1, fun j w hj => ?_⟩
  rcases hL j w hj with ⟨rfl, rfl⟩ | ⟨h1, h2, h3⟩
  · exact h.2.2 _ List.mem_cons_self
  · refine h.2.2 (j, zc G w) (List.mem_cons_of_mem _ (List.mem_filter.mpr ⟨(zas_mem L 0 _).mpr ⟨j, w, h2, by simp⟩, ?_⟩))
    simp only [Bool.and_eq_true, Bool.not_eq_true', beq_eq_false_iff_ne, ne_eq, Bool.and_eq_false_iff]
    refine ⟨h1, ?_⟩
    by_cases hj : j + 1 = i
    · right; rw [zc_cat, h3 hj]; decide
    · left; exact hj
theorem zls.put2 {G : zG} {ls : Array Slot} {n i : Nat} {L L' : List (Option zV)} {v : zV} (h : lv_has ls n ((i, zc G v) :: (zas G 0 L).filter (fun q => !(q.1 == i) && (!(q.1 == i + 1) && !(q.1 + 1 == i && q.2.category == 2)))))
    (hL : ∀ (j : Nat) (w : zV), L'[j]? = some (some w) → (j = i ∧ w = v) ∨ (j ≠ i ∧ j ≠ i + 1 ∧ L[j]? = some (some w) ∧ (j + 1 = i → zcat w = 1))) : zls G ls n L' := by
  refine ⟨h.1, h.2.1, fun j w hj => ?_⟩
  rcases hL j w hj with ⟨rfl, rfl⟩ | ⟨h1, h1', h2, h3⟩
  · exact h.2.2 _ List.mem_cons_self
  · refine h.2.2 (j, zc G w) (List.mem_cons_of_mem _ (List.mem_filter.mpr ⟨(zas_mem L 0 _).mpr ⟨j, w, h2, by simp⟩, ?_⟩))
    simp only [Bool.and_eq_true, Bool.not_eq_true', beq_eq_false_iff_ne, ne_eq, Bool.and_eq_false_iff]
    refine ⟨h1, h1', ?_⟩
    by_cases hj : j + 1 = i
    · right; rw [zc_cat, h3 hj]; decide
    · left; exact hj
/-- the locals at a method's entry -/
def zent : List zV → List (Option zV)
  | [] => []
  | v :: r => if zcat v = 2 then some v :: none :: zent r else some v :: zent r
theorem zent_ok {G : zG} : ∀ (av : List zV) (i j : Nat) (v : zV), (zent av)[j]? = some (some v) → (i + j, zc G v) ∈ lv_args i (av.map (zc G))
  | [], i, j, v, h => by simp [zent] at h
  | w :: r, i, j, v, h => by
    rw [zent] at h
    rw [List.map_cons, lv_args]
    by_cases hc : zcat w = 2
    · rw [if_pos hc] at h
      match j, h with
      | 0, h => simp at h; subst h; simp
      | 1, h => simp at h
      | j + 2, h =>
        have := zent_ok (G := G) r (i + 2) j v (by simpa using h)
        rw [zc_cat, hc]
        simp only [List.mem_cons]
        right
        have e : i + (j + 2) = i + 2 + j := by omega
        rw [e]; exact this
    · have hc1 : zcat w = 1 := by rcases w with a | a | a <;> simp_all [zcat]
      rw [if_neg hc] at h
      match j, h with
      | 0, h => simp at h; subst h; simp
      | j + 1, h =>
        have := zent_ok (G := G) r (i + 1) j v (by simpa using h)
        rw [zc_cat, hc1]
        simp only [List.mem_cons]
        right
        have e : i + (j + 1) = i + 1 + j := by omega
        rw [e]; exact this
