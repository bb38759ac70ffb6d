def zFd (own : String) (ix ci i : Nat) : Prop := ∃ (C : String) (T : u_T) (N : Nat), vwCl[ci]? = some (C, T, N) ∧ i < N ∧ Cond.fieldLink own ix (T i).1 (T i).2.1 (T i).2.2.1 ∈ zT ∧ (∀ w ∈ u_ws C T N, w ∈ zT)
def zFw (own : String) (ix ci i : Nat) (ty : FieldType) : Prop := ∃ (C : String) (T : u_T) (N : Nat) (tf : Nat → FieldType), vwCl[ci]? = some (C, T, N) ∧ i < N ∧ Cond.fieldLink own ix (T i).1 (T i).2.1 (T i).2.2.1 ∈ zT ∧ (∀ w ∈ u_ws C T N, w ∈ zT) ∧
  (∀ k, k < N → parseFieldDescriptor (T k).2.2.1 = some (tf k)) ∧ (∀ a, a < N → ∀ b, b < N → a ≠ b → (T a).2.1 ≠ (T b).2.1) ∧ (T i).2.2.2 = false ∧ parseFieldDescriptor (T i).2.2.1 = some ty
theorem zw_obj {G : zG} {st : zS} {k ci : Nat} {fs : List zV} (J : zJ st) (h : st k = zO ci fs) : (zw G st)[k]? = some (G.1 k, .inr (ci, fs.map (zc G))) := by
  rw [zw_at (J.lt h), h]; rfl
theorem zw_arr {G : zG} {st : zS} {k t n : Nat} {f : Int → Int} (J : zJ st) (h : st k = zA t n f) (ht : t ≠ 99) : (zw G st)[k]? = some (G.1 k, .inl (G.2.1 t, n, zcr G t f)) := by
  rw [zw_at (J.lta h ht), h]; rfl
section ZC
variable {G : zG} {M : zM} {B : Room × Nat × Nat} {Q : List Frame → Array Value → State → State → Prop} {pc n : Nat} {L : List (Option zV)} {stk : List zV} {st : zS}
theorem z_get {k ci i ix : Nat} {fs : List zV} {v : zV} (hd : decode M.2.1 pc = .ok (.getfield ix, 3)) (hn : pc + 3 = n) (hst : st k = zO ci fs) (hf : zFd M.1.cls ix ci i) (hv : fs[i]? = some v) (kk : zW G M B Q n L (v :: stk) st) : zW G M B Q pc L (zR k :: stk) st := by
  intro p l e s m args below meth c H locs ls F J P S hl
  have kk := kk p l e s m args below meth c H locs ls F J P S hl
  obtain ⟨C, T, N, h1, h2, h3, h4⟩ := hf
  obtain ⟨hx, hb, hr, hml, hown, hts, hlocks, hK, hI, hZ⟩ := F
  subst hn
  exact va_get hx hb hts h4 hown hK P k (zw_obj J hst) h1 i h2 (hts _ h3) (fun _ h9 => h9) (by rw [List.getElem?_map, hv]; rfl) hd kk
theorem z_putv {k ci i ix : Nat} {fs : List zV} {v : zV} {ty : FieldType} (hd : decode M.2.1 pc = .ok (.putfield ix, 3)) (hn : pc + 3 = n) (hst : st k = zO ci fs) (hf : zFw M.1.cls ix ci i ty) (hv : narrow ty (zc G v) = zc G v ∧ fits ty (zc G v) = true) (hi : i < fs.length) (kk : zW G M B Q n L stk (zu st k (zO ci (fs.set i v)))) : zW G M B Q pc L (v :: zR k :: stk) st := by
  intro p l e s m args below meth c H locs ls F J P S hl
  obtain ⟨C, T, N, tf, h1, h2, h3, h4, h5, h6, h7, h8⟩ := hf
  have F' := F
  obtain ⟨hx, hb, hr, hml, hown, hts, hlocks, hK, hI, hZ⟩ := F'
  subst hn
  refine va_put hx hb hts h4 tf h5 h6 hown hK P (zw_D hI) S k (zw_obj J hst) h1 i h2 (hts _ h3) (fun _ h9 => h9) h7 h8 hv.1 hv.2 (by simpa using hi) hd (fun H1 locs1 P1 D1 S1 => ?_)
  refine kk p l e s m args below meth c H1 locs1 ls F (J.set (J.lt hst)) ?_ S1 hl
  rw [← zw_set (J.lt hst)]
  have e : (Sum.inr (ci, (fs.map (zc G)).set i (zc G v)) : va_E) = zcc G (zO ci (fs.set i v)) := by
    show _ = (Sum.inr (ci, (fs.set i v).map (zc G)) : va_E)
    rw [List.map_set]
  rw [← e]
  exact P1
theorem z_put {k ci i ix : Nat} {fs : List zV} {a : Int} (hd : decode M.2.1 pc = .ok (.putfield ix, 3)) (hn : pc + 3 = n) (hst : st k = zO ci fs) (hf : zFw M.1.cls ix ci i .int) (hi : i < fs.length) (kk : zW G M B Q n L stk (zu st k (zO ci (fs.set i (zI a))))) : zW G M B Q pc L (zI a :: zR k :: stk) st :=
  z_putv hd hn hst hf ⟨rfl, rfl⟩ hi kk
theorem z_putL {k ci i ix : Nat} {fs : List zV} {a : Int} (hd : decode M.2.1 pc = .ok (.putfield ix, 3)) (hn : pc + 3 = n) (hst : st k = zO ci fs) (hf : zFw M.1.cls ix ci i .long) (hi : i < fs.length) (kk : zW G M B Q n L stk (zu st k (zO ci (fs.set i (zL a))))) : zW G M B Q pc L (zL a :: zR k :: stk) st :=
  z_putv hd hn hst hf ⟨rfl, rfl⟩ hi kk
theorem z_putZ {k ci i ix : Nat} {fs : List zV} {a : Int} (hd : decode M.2.1 pc = .ok (.putfield ix, 3)) (hn : pc + 3 = n) (hst : st k = zO ci fs) (hf : zFw M.1.cls ix ci i .boolean) (ha : a = 0 ∨ a = 1) (hi : i < fs.length) (kk : zW G M B Q n L stk (zu st k (zO ci (fs.set i (zI a))))) : zW G M B Q pc L (zI a :: zR k :: stk) st :=
  z_putv hd hn hst hf (by rcases ha with rfl | rfl <;> exact ⟨rfl, rfl⟩) hi kk
theorem zcr1 {G : zG} {t : Nat} (f : Int → Int) (h2 : t ≠ 2) (h4 : t ≠ 4) : zcr G t f = .inl (fun j => Int32.ofInt (f j)) := by rw [zcr, if_neg h2, if_neg h4]
theorem zcr_upd {f : Int → Int} {i v : Int} (h0 : 0 ≤ i) : upd (fun j => Int32.ofInt (f j)) i.toNat (Int32.ofInt v) = (fun j : Nat => Int32.ofInt (zf f i v j)) := by
  funext j
  by_cases hj : j = i.toNat
  · subst hj
    have : ((i.toNat : Nat) : Int) = i := Int.toNat_of_nonneg h0
    simp [upd, zf, this]
  · have : ¬ ((j : Int) = i) := by omega
    simp [upd, zf, hj, this]
theorem zcr_updL {f : Int → Int} {i v : Int} (h0 : 0 ≤ i) : vp_updL (fun j => Int64.ofInt (f j)) i.toNat (Int64.ofInt v) = (fun j : Nat => Int64.ofInt (zf f i v j)) := by
  funext j
  by_cases hj : j = i.toNat
  · subst hj
    have : ((i.toNat : Nat) : Int) = i := Int.toNat_of_nonneg h0
    simp [vp_updL, zf, this]
  · have : ¬ ((j : Int) = i) := by omega
    simp [vp_updL, zf, hj, this]
theorem z_iald {k N : Nat} {f : Int → Int} {i : Int} (hd : decode M.2.1 pc = .ok (.iaload, 1)) (hn : pc + 1 = n) (hst : st k = zA 1 N f) (h0 : 0 ≤ i) (h1 : i < N) (h2 : N < 2147483648) (kk : zW G M B Q n L (zI (f i) :: stk) st) : zW G M B Q pc L (zI i :: zR k :: stk) st := by
  intro p l e s m args below meth c H locs ls F J P S hl
  have kk := kk p l e s m args below meth c H locs ls F J P S hl
  obtain ⟨hx, hb, hr, hml, hown, hts, hlocks, hK, hI, hZ⟩ := F
  subst hn
  have hw := zw_arr (G := G) J hst (by decide)
  rw [zcr1 f (by decide) (by decide)] at hw
  refine va_iald hx hb hK P k 1 hw rfl (za_in h0 h1 h2) hd ?_
  rw [za_cl h0 (by omega), Int.toNat_of_nonneg h0]
  exact kk
theorem z_bald {k N : Nat} {f : Int → Int} {i : Int} (hd : decode M.2.1 pc = .ok (.baload, 1)) (hn : pc + 1 = n) (hst : st k = zA 0 N f) (h0 : 0 ≤ i) (h1 : i < N) (h2 : N < 2147483648) (kk : zW G M B Q n L (zI (f i) :: stk) st) : zW G M B Q pc L (zI i :: zR k :: stk) st := by
  intro p l e s m args below meth c H locs ls F J P S hl
  have kk := kk p l e s m args below meth c H locs ls F J P S hl
  obtain ⟨hx, hb, hr, hml, hown, hts, hlocks, hK, hI, hZ⟩ := F
  subst hn
  have hw := zw_arr (G := G) J hst (by decide)
  rw [zcr1 f (by decide) (by decide)] at hw
  refine va_bald hx hb hK P k 0 hw rfl (za_in h0 h1 h2) hd ?_
  rw [za_cl h0 (by omega), Int.toNat_of_nonneg h0]
  exact kk
theorem z_zald {k N : Nat} {f : Int → Int} {i : Int} (hd : decode M.2.1 pc = .ok (.baload, 1)) (hn : pc + 1 = n) (hst : st k = zA 3 N f) (h0 : 0 ≤ i) (h1 : i < N) (h2 : N < 2147483648) (kk : zW G M B Q n L (zI (f i) :: stk) st) : zW G M B Q pc L (zI i :: zR k :: stk) st := by
  intro p l e s m args below meth c H locs ls F J P S hl
  have kk := kk p l e s m args below meth c H locs ls F J P S hl
  obtain ⟨hx, hb, hr, hml, hown, hts, hlocks, hK, hI, hZ⟩ := F
  subst hn
  have hw := zw_arr (G := G) J hst (by decide)
  rw [zcr1 f (by decide) (by decide)] at hw
  refine va_zald hx hb hK P k 3 hw rfl (za_in h0 h1 h2) hd ?_
  rw [za_cl h0 (by omega), Int.toNat_of_nonneg h0]
  exact kk
theorem z_lald {k N : Nat} {f : Int → Int} {i : Int} (hd : decode M.2.1 pc = .ok (.laload, 1)) (hn : pc + 1 = n) (hst : st k = zA 2 N f) (h0 : 0 ≤ i) (h1 : i < N) (h2 : N < 2147483648) (kk : zW G M B Q n L (zL (f i) :: stk) st) : zW G M B Q pc L (zI i :: zR k :: stk) st := by
  intro p l e s m args below meth c H locs ls F J P S hl
  have kk := kk p l e s m args below meth c H locs ls F J P S hl
  obtain ⟨hx, hb, hr, hml, hown, hts, hlocks, hK, hI, hZ⟩ := F
  subst hn
  refine va_lald hx hb hK P k 2 (zw_arr (G := G) J hst (by decide)) rfl (za_in h0 h1 h2) hd ?_
  show W _ _ _ _ _ _ _ _ _ _ _ _ _ _ _ (F0 m _ ls (.long (Int64.ofInt (f (((Int32.ofInt i).toNatClampNeg : Nat) : Int))) :: _))
  rw [za_cl h0 (by omega), Int.toNat_of_nonneg h0]
  exact kk
theorem z_aald {k N : Nat} {f : Int → Int} {i : Int} (hd : decode M.2.1 pc = .ok (.aaload, 1)) (hn : pc + 1 = n) (hst : st k = zA 4 N f) (h0 : 0 ≤ i) (h1 : i < N) (h2 : N < 2147483648) (kk : zW G M B Q n L (zR (f i).toNat :: stk) st) : zW G M B Q pc L (zI i :: zR k :: stk) st := by
  intro p l e s m args below meth c H locs ls F J P S hl
  have kk := kk p l e s m args below meth c H locs ls F J P S hl
  obtain ⟨hx, hb, hr, hml, hown, hts, hlocks, hK, hI, hZ⟩ := F
  subst hn
  refine va_aldq hx hb hK P k 4 (zw_arr (G := G) J hst (by decide)) rfl (za_in h0 h1 h2) hd ?_
  show W _ _ _ _ _ _ _ _ _ _ _ _ _ _ _ (F0 m _ ls (.ref (G.1 (f (((Int32.ofInt i).toNatClampNeg : Nat) : Int)).toNat) :: _))
  rw [za_cl h0 (by omega), Int.toNat_of_nonneg h0]
  exact kk
theorem z_alen {k t N : Nat} {f : Int → Int} (hd : decode M.2.1 pc = .ok (.arraylength, 1)) (hn : pc + 1 = n) (hst : st k = zA t N f) (ht : t < 5) (kk : zW G M B Q n L (zI N :: stk) st) : zW G M B Q pc L (zR k :: stk) st := by
  intro p l e s m args below meth c H locs ls F J P S hl
  have kk := kk p l e s m args below meth c H locs ls F J P S hl
  obtain ⟨hx, hb, hr, hml, hown, hts, hlocks, hK, hI, hZ⟩ := F
  subst hn
  have hty : ∃ ty, (zty G)[t]? = some (G.2.1 t, ty) := by
    match t, ht with
    | 0, _ => exact ⟨_, rfl⟩
    | 1, _ => exact ⟨_, rfl⟩
    | 2, _ => exact ⟨_, rfl⟩
    | 3, _ => exact ⟨_, rfl⟩
    | 4, _ => exact ⟨_, rfl⟩
  obtain ⟨ty, hty⟩ := hty
  exact va_alen hx hb hK P k t (zw_arr (G := G) J hst (by omega)) hty (v := Int32.ofInt N) Int32.ofInt_eq_ofNat.symm hd kk
theorem z_iast {k N : Nat} {f : Int → Int} {i v : Int} (hd : decode M.2.1 pc = .ok (.iastore, 1)) (hn : pc + 1 = n) (hst : st k = zA 1 N f) (h0 : 0 ≤ i) (h1 : i < N) (h2 : N < 2147483648) (kk : zW G M B Q n L stk (zu st k (zA 1 N (zf f i v)))) : zW G M B Q pc L (zI v :: zI i :: zR k :: stk) st := by
  intro p l e s m args below meth c H locs ls F J P S hl
  have F' := F
  obtain ⟨hx, hb, hr, hml, hown, hts, hlocks, hK, hI, hZ⟩ := F'
  subst hn
  have hw := zw_arr (G := G) J hst (by decide)
  rw [zcr1 f (by decide) (by decide)] at hw
  refine va_iast hx hb hK P (zw_D hI) S k 1 hw rfl (za_in h0 h1 h2) hd (fun H1 locs1 P1 D1 S1 => ?_)
  refine kk p l e s m args below meth c H1 locs1 ls F (J.set (J.lta hst (by decide))) ?_ S1 hl
  rw [← zw_set (J.lta hst (by decide))]
  have e2 : zcc G (zA 1 N (zf f i v)) = (Sum.inl (G.2.1 1, N, Sum.inl (upd (fun j => Int32.ofInt (f j)) (Int32.ofInt i).toNatClampNeg (Int32.ofInt v))) : va_E) := by
    rw [za_cl h0 (by omega), zcr_upd h0]; rfl
  rw [e2]
  exact P1
theorem z_last {k N : Nat} {f : Int → Int} {i v : Int} (hd : decode M.2.1 pc = .ok (.lastore, 1)) (hn : pc + 1 = n) (hst : st k = zA 2 N f) (h0 : 0 ≤ i) (h1 : i < N) (h2 : N < 2147483648) (kk : zW G M B Q n L stk (zu st k (zA 2 N (zf f i v)))) : zW G M B Q pc L (zL v :: zI i :: zR k :: stk) st := by
  intro p l e s m args below meth c H locs ls F J P S hl
  have F' := F
  obtain ⟨hx, hb, hr, hml, hown, hts, hlocks, hK, hI, hZ⟩ := F'
  subst hn
  have hw := zw_arr (G := G) J hst (by decide)
  refine va_last hx hb hK P (zw_D hI) S k 2 hw rfl (za_in h0 h1 h2) hd (fun H1 locs1 P1 D1 S1 => ?_)
  refine kk p l e s m args below meth c H1 locs1 ls F (J.set (J.lta hst (by decide))) ?_ S1 hl
  rw [← zw_set (J.lta hst (by decide))]
  have e2 : zcc G (zA 2 N (zf f i v)) = (Sum.inl (G.2.1 2, N, Sum.inr (Sum.inl (vp_updL (fun j => Int64.ofInt (f j)) (Int32.ofInt i).toNatClampNeg (Int64.ofInt v)))) : va_E) := by
    rw [za_cl h0 (by omega), zcr_updL h0]; rfl
  rw [e2]
  exact P1
theorem z_bast {k N : Nat} {f : Int → Int} {i v : Int} (hd : decode M.2.1 pc = .ok (.bastore, 1)) (hn : pc + 1 = n) (hst : st k = zA 0 N f) (h0 : 0 ≤ i) (h1 : i < N) (h2 : N < 2147483648) (h3 : -128 ≤ v) (h4 : v < 128) (kk : zW G M B Q n L stk (zu st k (zA 0 N (zf f i v)))) : zW G M B Q pc L (zI v :: zI i :: zR k :: stk) st := by
  intro p l e s m args below meth c H locs ls F J P S hl
  have F' := F
  obtain ⟨hx, hb, hr, hml, hown, hts, hlocks, hK, hI, hZ⟩ := F'
  subst hn
  have hw := zw_arr (G := G) J hst (by decide)
  rw [zcr1 f (by decide) (by decide)] at hw
  refine va_bast hx hb hK P (zw_D hI) S k 0 hw rfl (za_in h0 h1 h2) hd (fun H1 locs1 P1 D1 S1 => ?_)
  refine kk p l e s m args below meth c H1 locs1 ls F (J.set (J.lta hst (by decide))) ?_ S1 hl
  rw [← zw_set (J.lta hst (by decide))]
  have e2 : zcc G (zA 0 N (zf f i v)) = (Sum.inl (G.2.1 0, N, Sum.inl (upd (fun j => Int32.ofInt (f j)) (Int32.ofInt i).toNatClampNeg (vp_nar .byte (Int32.ofInt v)))) : va_E) := by
    rw [za_bast h3 h4, za_cl h0 (by omega), zcr_upd h0]; rfl
  rw [e2]
  exact P1
theorem z_zast {k N : Nat} {f : Int → Int} {i v : Int} (hd : decode M.2.1 pc = .ok (.bastore, 1)) (hn : pc + 1 = n) (hst : st k = zA 3 N f) (h0 : 0 ≤ i) (h1 : i < N) (h2 : N < 2147483648) (h3 : v = 0 ∨ v = 1) (kk : zW G M B Q n L stk (zu st k (zA 3 N (zf f i v)))) : zW G M B Q pc L (zI v :: zI i :: zR k :: stk) st := by
  intro p l e s m args below meth c H locs ls F J P S hl
  have F' := F
  obtain ⟨hx, hb, hr, hml, hown, hts, hlocks, hK, hI, hZ⟩ := F'
  subst hn
  have hw := zw_arr (G := G) J hst (by decide)
  rw [zcr1 f (by decide) (by decide)] at hw
  refine va_zast hx hb hK P (zw_D hI) S k 3 hw rfl (za_in h0 h1 h2) hd (fun H1 locs1 P1 D1 S1 => ?_)
  refine kk p l e s m args below meth c H1 locs1 ls F (J.set (J.lta hst (by decide))) ?_ S1 hl
  rw [← zw_set (J.lta hst (by decide))]
  have e3 : vp_nar .boolean (Int32.ofInt v) = Int32.ofInt v := by rcases h3 with rfl | rfl <;> rfl
  have e2 : zcc G (zA 3 N (zf f i v)) = (Sum.inl (G.2.1 3, N, Sum.inl (upd (fun j => Int32.ofInt (f j)) (Int32.ofInt i).toNatClampNeg (vp_nar .boolean (Int32.ofInt v)))) : va_E) := by
    rw [e3, za_cl h0 (by omega), zcr_upd h0]; rfl
  rw [e2]
  exact P1
/-- the table of the sorts -/
theorem z_gets {ix : Nat} (hd : decode M.2.1 pc = .ok (.getstatic ix, 3)) (hn : pc + 3 = n) (hw : Cond.fieldLink M.1.cls ix RX6 "SORTS_OF_YES" "[I" ∈ zT) (kk : zW G M B Q n L (zR 90 :: stk) st) : zW G M B Q pc L stk st := by
  intro p l e s m args below meth c H locs ls F J P S hl
  have kk := kk p l e s m args below meth c H locs ls F J P S hl
  obtain ⟨hx, hb, hr, hml, hown, hts, hlocks, hK, hI, hZ⟩ := F
  subst hn
  exact va_gets hx hb hZ.1 S hown (hts _ hw) (fun _ h => h) hd kk
theorem z_sald {i : Int} (hd : decode M.2.1 pc = .ok (.iaload, 1)) (hn : pc + 1 = n) (h0 : 0 ≤ i) (h1 : i < 4) (kk : zW G M B Q n L (zI (zsy i) :: stk) st) : zW G M B Q pc L (zI i :: zR 90 :: stk) st := by
  intro p l e s m args below meth c H locs ls F J P S hl
  have kk := kk p l e s m args below meth c H locs ls F J P S hl
  obtain ⟨hx, hb, hr, hml, hown, hts, hlocks, hK, hI, hZ⟩ := F
  subst hn
  refine va_ti hx hb hZ.2.1 S (za_in h0 h1 (by decide)) (v := .int (Int32.ofInt (zsy i))) ?_ hd kk
  rw [za_cl h0 (by omega), Int.toNat_of_nonneg h0]
/-- the script -/
theorem z_xald {i : Int} (hd : decode M.2.1 pc = .ok (.iaload, 1)) (hn : pc + 1 = n) (h0 : 0 ≤ i) (h1 : i < G.2.2.2.1) (h2 : G.2.2.2.1 < 2147483648) (kk : zW G M B Q n L (zI (G.2.2.2.2 i.toNat).toInt :: stk) st) : zW G M B Q pc L (zI i :: zR 95 :: stk) st := by
  intro p l e s m args below meth c H locs ls F J P S hl
  have kk := kk p l e s m args below meth c H locs ls F J P S hl
  obtain ⟨hx, hb, hr, hml, hown, hts, hlocks, hK, hI, hZ⟩ := F
  subst hn
  refine va_ti hx hb hZ.2.2.1 S (za_in h0 h1 h2) (v := .int (Int32.ofInt (G.2.2.2.2 i.toNat).toInt)) ?_ hd kk
  rw [za_cl h0 (by omega), Int32.ofInt_toInt]
theorem z_xlen (hd : decode M.2.1 pc = .ok (.arraylength, 1)) (hn : pc + 1 = n) (kk : zW G M B Q n L (zI G.2.2.2.1 :: stk) st) : zW G M B Q pc L (zR 95 :: stk) st := by
  intro p l e s m args below meth c H locs ls F J P S hl
  have kk := kk p l e s m args below meth c H locs ls F J P S hl
  obtain ⟨hx, hb, hr, hml, hown, hts, hlocks, hK, hI, hZ⟩ := F
  subst hn
  exact va_tlen hx hb hZ.2.2.1 S (v := Int32.ofInt G.2.2.2.1) Int32.ofInt_eq_ofNat.symm hd kk
/-- switches -/
theorem z_tsIn {a dflt lo hi off : Int} {offs : Array Int} {len tg : Nat} (hd : decode M.2.1 pc = .ok (.tableswitch dflt lo hi offs, len)) (ha : zr a) (h1 : lo ≤ a) (h2 : a ≤ hi) (ho : offs[(a - lo).toNat]? = some off) (ht : (pc : Int) + off = (tg : Int)) (k : zW G M B Q tg L stk st) : zW G M B Q pc L (zI a :: stk) st := by
  intro p l e s m args below meth c H locs ls F J P S hl
  have k := k p l e s m args below meth c H locs ls F J P S hl
  exact lv_tableIn F.1 F.2.1 hd (by rw [za_to ha]; omega) (by rw [za_to ha]; omega) (by rw [za_to ha]; exact ho) ht k
theorem z_tsOut {a dflt lo hi : Int} {offs : Array Int} {len tg : Nat} (hd : decode M.2.1 pc = .ok (.tableswitch dflt lo hi offs, len)) (ha : zr a) (h : a < lo ∨ hi < a) (ht : (pc : Int) + dflt = (tg : Int)) (k : zW G M B Q tg L stk st) : zW G M B Q pc L (zI a :: stk) st := by
  intro p l e s m args below meth c H locs ls F J P S hl
  have k := k p l e s m args below meth c H locs ls F J P S hl
  exact lv_tableOut F.1 F.2.1 hd (by rw [za_to ha]; exact h) ht k
theorem z_ls {a dflt off : Int} {ps : Array (Int × Int)} {len tg : Nat} (hd : decode M.2.1 pc = .ok (.lookupswitch dflt ps, len)) (ha : zr a) (hp : (ps.toList.zip (ps.toList.drop 1)).all (fun (a, next) => a.1 < next.1) = true) (ho : Op.lookupswitch.offset ps.toList dflt a = off) (ht : (pc : Int) + off = (tg : Int)) (k : zW G M B Q tg L stk st) : zW G M B Q pc L (zI a :: stk) st := by
  intro p l e s m args below meth c H locs ls F J P S hl
  have k := k p l e s m args below meth c H locs ls F J P S hl
  exact lv_lookup F.1 F.2.1 hd hp (by rw [za_to ha]; exact ho) ht k
/-- longs that are the same or not, and the branch behind it -/
theorem z_lcmp_eq {a b off : Int} {n2 tg : Nat} (hd : decode M.2.1 pc = .ok (.lcmp, 1)) (hn : pc + 1 = n) (hd2 : decode M.2.1 n = .ok (.ifCond .eq off, 3)) (hn2 : n + 3 = n2) (ht : (n : Int) + off = (tg : Int)) (hab : Int64.ofInt a = Int64.ofInt b ↔ a = b) (kt : a = b → zW G M B Q tg L stk st) (kf : a ≠ b → zW G M B Q n2 L stk st) : zW G M B Q pc L (zL b :: zL a :: stk) st := by
  intro p l e s m args below meth c H locs ls F J P S hl
  subst hn hn2
  refine W.lcmp F.1 F.2.1 hd ?_
  have hc : lg_cmp (Int64.ofInt a) (Int64.ofInt b) = 0 ↔ a = b := by
    rw [← hab]
    have h3 : Int64.ofInt a < Int64.ofInt b ∨ Int64.ofInt a = Int64.ofInt b ∨ Int64.ofInt b < Int64.ofInt a := by
      rw [Int64.lt_iff_toInt_lt, Int64.lt_iff_toInt_lt, ← Int64.toInt_inj]; omega
    unfold lg_cmp
    rcases h3 with h | h | h
    · have h4 : ¬ Int64.ofInt a = Int64.ofInt b := fun z => by rw [z, Int64.lt_iff_toInt_lt] at h; omega
      have h5 : ¬ Int64.ofInt b < Int64.ofInt a := fun z => by rw [Int64.lt_iff_toInt_lt] at h z; omega
      simp [h4, h5]
    · simp [h, Int64.lt_iff_toInt_lt]
    · have h4 : ¬ Int64.ofInt a = Int64.ofInt b := fun z => by rw [z, Int64.lt_iff_toInt_lt] at h; omega
      have h5 : ¬ Int64.ofInt a < Int64.ofInt b := fun z => by rw [Int64.lt_iff_toInt_lt] at h z; omega
      simp [h4, h5, h]
  exact lv_if_eq F.1 F.2.1 hd2 ht (fun h => kt (hc.mp h) p l e s m args below meth c H locs ls F J P S hl) (fun h => kf (fun z => h (hc.mpr z)) p l e s m args below meth c H locs ls F J P S hl)
end ZC
