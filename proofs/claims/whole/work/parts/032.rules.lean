theorem z_lset {α : Type} {l l' : List α} (k : Nat) {v : α} (h : l.set k v = l') (j : Nat) (hj : j ≠ k) : l[j]? = l'[j]? := by
  rw [← h, List.getElem?_set_ne (Ne.symm hj)]
theorem z_lset2 {α : Type} {l l' : List α} (k : Nat) {v w : α} (h : (l.set k v).set (k + 1) w = l') (j : Nat) (hj : j ≠ k) (hj2 : j ≠ k + 1) : l[j]? = l'[j]? := by
  rw [← h, List.getElem?_set_ne (Ne.symm hj2), List.getElem?_set_ne (Ne.symm hj)]
section ZR
variable {G : zG} {M : zM} {B : Room × Nat × Nat} {Q : List Frame → Array Value → State → State → Prop} {pc n : Nat} {L : List (Option zV)} {stk : List zV} {st : zS}

theorem z_iconst {v : Int} (hd : decode M.2.1 pc = .ok (.iconst v, 1)) (hn : pc + 1 = n) (k : zW G M B Q n L (zI v :: stk) st) : zW G M B Q pc L stk st := by
  intro p l e s m args below meth c H locs ls F J P S hl
  have hx := F.1
  have hb := F.2.1
  subst hn
  have k := k p l e s m args below meth c H locs ls F J P S hl
  refine lv_iconst hx hb hd rfl ?_
  exact k

theorem z_bipush {v : Int} (hd : decode M.2.1 pc = .ok (.bipush v, 2)) (hn : pc + 2 = n) (hv : (Int8.ofInt v).toInt32 = Int32.ofInt v) (k : zW G M B Q n L (zI v :: stk) st) : zW G M B Q pc L stk st := by
  intro p l e s m args below meth c H locs ls F J P S hl
  have hx := F.1
  have hb := F.2.1
  subst hn
  have k := k p l e s m args below meth c H locs ls F J P S hl
  refine lv_bipush hx hb hd hv ?_
  exact k

theorem z_sipush {v : Int} (hd : decode M.2.1 pc = .ok (.sipush v, 3)) (hn : pc + 3 = n) (hv : (Int16.ofInt v).toInt32 = Int32.ofInt v) (k : zW G M B Q n L (zI v :: stk) st) : zW G M B Q pc L stk st := by
  intro p l e s m args below meth c H locs ls F J P S hl
  have hx := F.1
  have hb := F.2.1
  subst hn
  have k := k p l e s m args below meth c H locs ls F J P S hl
  refine lv_sipush hx hb hd hv ?_
  exact k

theorem z_ldc {ix : Nat} {v : Int} (hd : decode M.2.1 pc = .ok (.ldc ix, 2)) (hn : pc + 2 = n) (hw : Cond.constant M.1.cls ix (Int32.ofInt v) ∈ zT) (k : zW G M B Q n L (zI v :: stk) st) : zW G M B Q pc L stk st := by
  intro p l e s m args below meth c H locs ls F J P S hl
  have hx := F.1
  have hb := F.2.1
  subst hn
  have k := k p l e s m args below meth c H locs ls F J P S hl
  refine lv_ldc hx hb F.2.2.2.2.1 (F.2.2.2.2.2.1 _ hw) hd ?_
  exact k

theorem z_ldcw {ix : Nat} {v : Int} (hd : decode M.2.1 pc = .ok (.ldc_w ix, 3)) (hn : pc + 3 = n) (hw : Cond.constant M.1.cls ix (Int32.ofInt v) ∈ zT) (k : zW G M B Q n L (zI v :: stk) st) : zW G M B Q pc L stk st := by
  intro p l e s m args below meth c H locs ls F J P S hl
  have hx := F.1
  have hb := F.2.1
  subst hn
  have k := k p l e s m args below meth c H locs ls F J P S hl
  refine lv_ldcw hx hb F.2.2.2.2.1 (F.2.2.2.2.2.1 _ hw) hd ?_
  exact k

theorem z_ldc2 {ix : Nat} {v : Int} (hd : decode M.2.1 pc = .ok (.ldc2_w ix, 3)) (hn : pc + 3 = n) (hw : Cond.constantLong M.1.cls ix (Int64.ofInt v) ∈ zT) (k : zW G M B Q n L (zL v :: stk) st) : zW G M B Q pc L stk st := by
  intro p l e s m args below meth c H locs ls F J P S hl
  have hx := F.1
  have hb := F.2.1
  subst hn
  have k := k p l e s m args below meth c H locs ls F J P S hl
  refine lv_ldc2 hx hb F.2.2.2.2.1 (F.2.2.2.2.2.1 _ hw) hd ?_
  exact k

theorem z_lconst0 (hd : decode M.2.1 pc = .ok (.lconst 0, 1)) (hn : pc + 1 = n) (k : zW G M B Q n L (zL 0 :: stk) st) : zW G M B Q pc L stk st := by
  intro p l e s m args below meth c H locs ls F J P S hl
  have hx := F.1
  have hb := F.2.1
  subst hn
  have k := k p l e s m args below meth c H locs ls F J P S hl
  refine lv_lconst hx hb hd rfl ?_
  exact k

theorem z_iadd {a b : Int} (hd : decode M.2.1 pc = .ok (.iadd, 1)) (hn : pc + 1 = n) (k : zW G M B Q n L (zI (a + b) :: stk) st) : zW G M B Q pc L (zI b :: zI a :: stk) st := by
  intro p l e s m args below meth c H locs ls F J P S hl
  have hx := F.1
  have hb := F.2.1
  subst hn
  have k := k p l e s m args below meth c H locs ls F J P S hl
  refine lv_iadd hx hb hd ?_
  rw [za_add]
  exact k

theorem z_isub {a b : Int} (hd : decode M.2.1 pc = .ok (.isub, 1)) (hn : pc + 1 = n) (k : zW G M B Q n L (zI (a - b) :: stk) st) : zW G M B Q pc L (zI b :: zI a :: stk) st := by
  intro p l e s m args below meth c H locs ls F J P S hl
  have hx := F.1
  have hb := F.2.1
  subst hn
  have k := k p l e s m args below meth c H locs ls F J P S hl
  refine lv_isub hx hb hd ?_
  rw [za_sub]
  exact k

theorem z_imul {a b : Int} (hd : decode M.2.1 pc = .ok (.imul, 1)) (hn : pc + 1 = n) (k : zW G M B Q n L (zI (a * b) :: stk) st) : zW G M B Q pc L (zI b :: zI a :: stk) st := by
  intro p l e s m args below meth c H locs ls F J P S hl
  have hx := F.1
  have hb := F.2.1
  subst hn
  have k := k p l e s m args below meth c H locs ls F J P S hl
  refine lv_imul hx hb hd ?_
  rw [za_mul]
  exact k

theorem z_iand {a b : Int} (hd : decode M.2.1 pc = .ok (.iand, 1)) (hn : pc + 1 = n) (ha : 0 ≤ a) (hb0 : 0 ≤ b) (k : zW G M B Q n L (zI (zand a b) :: stk) st) : zW G M B Q pc L (zI b :: zI a :: stk) st := by
  intro p l e s m args below meth c H locs ls F J P S hl
  have hx := F.1
  have hb := F.2.1
  subst hn
  have k := k p l e s m args below meth c H locs ls F J P S hl
  refine lv_iand hx hb hd ?_
  rw [za_and ha hb0]
  exact k

theorem z_iand1 {a : Int} (hd : decode M.2.1 pc = .ok (.iand, 1)) (hn : pc + 1 = n) (ha : 0 ≤ a) (k : zW G M B Q n L (zI (a % 2) :: stk) st) : zW G M B Q pc L (zI 1 :: zI a :: stk) st := by
  intro p l e s m args below meth c H locs ls F J P S hl
  have hx := F.1
  have hb := F.2.1
  subst hn
  have k := k p l e s m args below meth c H locs ls F J P S hl
  refine lv_iand hx hb hd ?_
  rw [za_and ha (by decide), zand_1 ha]
  exact k

theorem z_iandG {a b : Int} (hd : decode M.2.1 pc = .ok (.iand, 1)) (hn : pc + 1 = n) (k : zW G M B Q n L (zI (Int32.ofInt a &&& Int32.ofInt b).toInt :: stk) st) : zW G M B Q pc L (zI b :: zI a :: stk) st := by
  intro p l e s m args below meth c H locs ls F J P S hl
  have hx := F.1
  have hb := F.2.1
  subst hn
  have k := k p l e s m args below meth c H locs ls F J P S hl
  refine lv_iand hx hb hd ?_
  rw [← Int32.ofInt_toInt (Int32.ofInt a &&& Int32.ofInt b)]
  exact k

theorem z_ixorG {a b : Int} (hd : decode M.2.1 pc = .ok (.ixor, 1)) (hn : pc + 1 = n) (k : zW G M B Q n L (zI (Int32.ofInt a ^^^ Int32.ofInt b).toInt :: stk) st) : zW G M B Q pc L (zI b :: zI a :: stk) st := by
  intro p l e s m args below meth c H locs ls F J P S hl
  have hx := F.1
  have hb := F.2.1
  subst hn
  have k := k p l e s m args below meth c H locs ls F J P S hl
  refine lv_ixor hx hb hd ?_
  rw [← Int32.ofInt_toInt (Int32.ofInt a ^^^ Int32.ofInt b)]
  exact k

theorem z_ior {a b : Int} (hd : decode M.2.1 pc = .ok (.ior, 1)) (hn : pc + 1 = n) (ha : 0 ≤ a) (hb0 : 0 ≤ b) (k : zW G M B Q n L (zI (zor a b) :: stk) st) : zW G M B Q pc L (zI b :: zI a :: stk) st := by
  intro p l e s m args below meth c H locs ls F J P S hl
  have hx := F.1
  have hb := F.2.1
  subst hn
  have k := k p l e s m args below meth c H locs ls F J P S hl
  refine lv_ior hx hb hd ?_
  rw [za_or ha hb0]
  exact k

theorem z_ixor {a b : Int} (hd : decode M.2.1 pc = .ok (.ixor, 1)) (hn : pc + 1 = n) (ha : 0 ≤ a) (hb0 : 0 ≤ b) (k : zW G M B Q n L (zI (zxor a b) :: stk) st) : zW G M B Q pc L (zI b :: zI a :: stk) st := by
  intro p l e s m args below meth c H locs ls F J P S hl
  have hx := F.1
  have hb := F.2.1
  subst hn
  have k := k p l e s m args below meth c H locs ls F J P S hl
  refine lv_ixor hx hb hd ?_
  rw [za_xor ha hb0]
  exact k

theorem z_idiv {a b : Int} (hd : decode M.2.1 pc = .ok (.idiv, 1)) (hn : pc + 1 = n) (h0 : 0 ≤ a) (h1 : a < 2147483648) (h2 : 0 < b) (h3 : b < 2147483648) (k : zW G M B Q n L (zI (a / b) :: stk) st) : zW G M B Q pc L (zI b :: zI a :: stk) st := by
  intro p l e s m args below meth c H locs ls F J P S hl
  have hx := F.1
  have hb := F.2.1
  subst hn
  have k := k p l e s m args below meth c H locs ls F J P S hl
  refine lv_idiv hx hb hd (fun h => by rw [za_eq0 ⟨by omega, by omega⟩] at h; omega) ?_
  rw [za_div h0 h1 h2 h3]
  exact k

theorem z_irem {a b : Int} (hd : decode M.2.1 pc = .ok (.irem, 1)) (hn : pc + 1 = n) (h0 : 0 ≤ a) (h1 : a < 2147483648) (h2 : 0 < b) (h3 : b < 2147483648) (k : zW G M B Q n L (zI (a % b) :: stk) st) : zW G M B Q pc L (zI b :: zI a :: stk) st := by
  intro p l e s m args below meth c H locs ls F J P S hl
  have hx := F.1
  have hb := F.2.1
  subst hn
  have k := k p l e s m args below meth c H locs ls F J P S hl
  refine lv_irem hx hb hd (fun h => by rw [za_eq0 ⟨by omega, by omega⟩] at h; omega) ?_
  rw [za_rem h0 h1 h2 h3]
  exact k

theorem z_ishl {a j : Int} (hd : decode M.2.1 pc = .ok (.ishl, 1)) (hn : pc + 1 = n) (h0 : 0 ≤ j) (h1 : j < 32) (k : zW G M B Q n L (zI (a * 2 ^ j.toNat) :: stk) st) : zW G M B Q pc L (zI j :: zI a :: stk) st := by
  intro p l e s m args below meth c H locs ls F J P S hl
  have hx := F.1
  have hb := F.2.1
  subst hn
  have k := k p l e s m args below meth c H locs ls F J P S hl
  refine lv_ishl hx hb hd ?_
  rw [za_shl h0 h1]
  exact k

theorem z_ishr {a j : Int} (hd : decode M.2.1 pc = .ok (.ishr, 1)) (hn : pc + 1 = n) (ha : zr a) (h0 : 0 ≤ j) (h1 : j < 32) (k : zW G M B Q n L (zI (a / 2 ^ j.toNat) :: stk) st) : zW G M B Q pc L (zI j :: zI a :: stk) st := by
  intro p l e s m args below meth c H locs ls F J P S hl
  have hx := F.1
  have hb := F.2.1
  subst hn
  have k := k p l e s m args below meth c H locs ls F J P S hl
  refine lv_ishr hx hb hd ?_
  rw [za_shr ha h0 h1]
  exact k

theorem z_ladd {a b : Int} (hd : decode M.2.1 pc = .ok (.ladd, 1)) (hn : pc + 1 = n) (k : zW G M B Q n L (zL (a + b) :: stk) st) : zW G M B Q pc L (zL b :: zL a :: stk) st := by
  intro p l e s m args below meth c H locs ls F J P S hl
  have hx := F.1
  have hb := F.2.1
  subst hn
  have k := k p l e s m args below meth c H locs ls F J P S hl
  refine lv_ladd hx hb hd ?_
  rw [za_ladd]
  exact k

theorem z_lmul {a b : Int} (hd : decode M.2.1 pc = .ok (.lmul, 1)) (hn : pc + 1 = n) (k : zW G M B Q n L (zL (a * b) :: stk) st) : zW G M B Q pc L (zL b :: zL a :: stk) st := by
  intro p l e s m args below meth c H locs ls F J P S hl
  have hx := F.1
  have hb := F.2.1
  subst hn
  have k := k p l e s m args below meth c H locs ls F J P S hl
  refine lv_lmul hx hb hd ?_
  rw [za_lmul]
  exact k

theorem z_land {a b : Int} (hd : decode M.2.1 pc = .ok (.land, 1)) (hn : pc + 1 = n) (ha : 0 ≤ a) (hb0 : 0 ≤ b) (k : zW G M B Q n L (zL (zand a b) :: stk) st) : zW G M B Q pc L (zL b :: zL a :: stk) st := by
  intro p l e s m args below meth c H locs ls F J P S hl
  have hx := F.1
  have hb := F.2.1
  subst hn
  have k := k p l e s m args below meth c H locs ls F J P S hl
  refine lv_land hx hb hd ?_
  rw [za_land ha hb0]
  exact k

theorem z_land15 {a : Int} (hd : decode M.2.1 pc = .ok (.land, 1)) (hn : pc + 1 = n) (k : zW G M B Q n L (zL (a % 16) :: stk) st) : zW G M B Q pc L (zL 15 :: zL a :: stk) st := by
  intro p l e s m args below meth c H locs ls F J P S hl
  have hx := F.1
  have hb := F.2.1
  subst hn
  have k := k p l e s m args below meth c H locs ls F J P S hl
  refine lv_land hx hb hd ?_
  rw [show Int64.ofInt 15 = 15 from rfl, za_l15]
  exact k

theorem z_lor {a b : Int} (hd : decode M.2.1 pc = .ok (.lor, 1)) (hn : pc + 1 = n) (ha : 0 ≤ a) (hb0 : 0 ≤ b) (k : zW G M B Q n L (zL (zor a b) :: stk) st) : zW G M B Q pc L (zL b :: zL a :: stk) st := by
  intro p l e s m args below meth c H locs ls F J P S hl
  have hx := F.1
  have hb := F.2.1
  subst hn
  have k := k p l e s m args below meth c H locs ls F J P S hl
  refine lv_lor hx hb hd ?_
  rw [za_lor ha hb0]
  exact k

theorem z_ldiv {a b : Int} (hd : decode M.2.1 pc = .ok (.ldiv, 1)) (hn : pc + 1 = n) (h0 : 0 ≤ a) (h1 : a < 9223372036854775808) (h2 : 0 < b) (h3 : b < 9223372036854775808) (k : zW G M B Q n L (zL (a / b) :: stk) st) : zW G M B Q pc L (zL b :: zL a :: stk) st := by
  intro p l e s m args below meth c H locs ls F J P S hl
  have hx := F.1
  have hb := F.2.1
  subst hn
  have k := k p l e s m args below meth c H locs ls F J P S hl
  refine lv_ldiv hx hb hd (fun h => by have h9 := congrArg Int64.toInt h; rw [za_lto ⟨by omega, by omega⟩] at h9; exact absurd h9 (by show ¬ b = 0; omega)) ?_
  rw [za_ldiv h0 h1 h2 h3]
  exact k

theorem z_lrem {a b : Int} (hd : decode M.2.1 pc = .ok (.lrem, 1)) (hn : pc + 1 = n) (h0 : 0 ≤ a) (h1 : a < 9223372036854775808) (h2 : 0 < b) (h3 : b < 9223372036854775808) (k : zW G M B Q n L (zL (a % b) :: stk) st) : zW G M B Q pc L (zL b :: zL a :: stk) st := by
  intro p l e s m args below meth c H locs ls F J P S hl
  have hx := F.1
  have hb := F.2.1
  subst hn
  have k := k p l e s m args below meth c H locs ls F J P S hl
  refine lv_lrem hx hb hd (fun h => by have h9 := congrArg Int64.toInt h; rw [za_lto ⟨by omega, by omega⟩] at h9; exact absurd h9 (by show ¬ b = 0; omega)) ?_
  rw [za_lrem h0 h1 h2 h3]
  exact k

theorem z_lshl {a j : Int} (hd : decode M.2.1 pc = .ok (.lshl, 1)) (hn : pc + 1 = n) (h0 : 0 ≤ j) (h1 : j < 64) (k : zW G M B Q n L (zL (a * 2 ^ j.toNat) :: stk) st) : zW G M B Q pc L (zI j :: zL a :: stk) st := by
  intro p l e s m args below meth c H locs ls F J P S hl
  have hx := F.1
  have hb := F.2.1
  subst hn
  have k := k p l e s m args below meth c H locs ls F J P S hl
  refine lv_lshl hx hb hd (za_lshl h0 h1) ?_
  exact k

theorem z_lshr {a j : Int} (hd : decode M.2.1 pc = .ok (.lshr, 1)) (hn : pc + 1 = n) (ha : -9223372036854775808 ≤ a ∧ a < 9223372036854775808) (h0 : 0 ≤ j) (h1 : j < 64) (k : zW G M B Q n L (zL (a / 2 ^ j.toNat) :: stk) st) : zW G M B Q pc L (zI j :: zL a :: stk) st := by
  intro p l e s m args below meth c H locs ls F J P S hl
  have hx := F.1
  have hb := F.2.1
  subst hn
  have k := k p l e s m args below meth c H locs ls F J P S hl
  refine lv_lshr hx hb hd (za_lshr ha h0 h1) ?_
  exact k

theorem z_i2l {a : Int} (hd : decode M.2.1 pc = .ok (.i2l, 1)) (hn : pc + 1 = n) (ha : zr a) (k : zW G M B Q n L (zL a :: stk) st) : zW G M B Q pc L (zI a :: stk) st := by
  intro p l e s m args below meth c H locs ls F J P S hl
  have hx := F.1
  have hb := F.2.1
  subst hn
  have k := k p l e s m args below meth c H locs ls F J P S hl
  refine lv_i2l hx hb hd (za_i2l ha) ?_
  exact k

theorem z_l2i {a : Int} (hd : decode M.2.1 pc = .ok (.l2i, 1)) (hn : pc + 1 = n) (k : zW G M B Q n L (zI a :: stk) st) : zW G M B Q pc L (zL a :: stk) st := by
  intro p l e s m args below meth c H locs ls F J P S hl
  have hx := F.1
  have hb := F.2.1
  subst hn
  have k := k p l e s m args below meth c H locs ls F J P S hl
  refine lv_l2i hx hb hd (za_l2i a) ?_
  exact k

theorem z_i2b {a : Int} (hd : decode M.2.1 pc = .ok (.i2b, 1)) (hn : pc + 1 = n) (h0 : -128 ≤ a) (h1 : a < 128) (k : zW G M B Q n L (zI a :: stk) st) : zW G M B Q pc L (zI a :: stk) st := by
  intro p l e s m args below meth c H locs ls F J P S hl
  have hx := F.1
  have hb := F.2.1
  subst hn
  have k := k p l e s m args below meth c H locs ls F J P S hl
  refine lv_i2b hx hb hd (za_i2b h0 h1) ?_
  exact k

theorem z_dup {v : zV} (hd : decode M.2.1 pc = .ok (.dup, 1)) (hn : pc + 1 = n) (hv : zcat v = 1) (k : zW G M B Q n L (v :: v :: stk) st) : zW G M B Q pc L (v :: stk) st := by
  intro p l e s m args below meth c H locs ls F J P S hl
  have hx := F.1
  have hb := F.2.1
  subst hn
  have k := k p l e s m args below meth c H locs ls F J P S hl
  refine lv_dup hx hb hd ((zc_cat G v).trans hv) ?_
  exact k

theorem z_pop {v : zV} (hd : decode M.2.1 pc = .ok (.pop, 1)) (hn : pc + 1 = n) (hv : zcat v = 1) (k : zW G M B Q n L stk st) : zW G M B Q pc L (v :: stk) st := by
  intro p l e s m args below meth c H locs ls F J P S hl
  have hx := F.1
  have hb := F.2.1
  subst hn
  have k := k p l e s m args below meth c H locs ls F J P S hl
  refine lv_pop hx hb hd ((zc_cat G v).trans hv) ?_
  exact k

theorem z_dup2 {v w : zV} (hd : decode M.2.1 pc = .ok (.dup2, 1)) (hn : pc + 1 = n) (hv : zcat v = 1) (hw : zcat w = 1) (k : zW G M B Q n L (v :: w :: v :: w :: stk) st) : zW G M B Q pc L (v :: w :: stk) st := by
  intro p l e s m args below meth c H locs ls F J P S hl
  have hx := F.1
  have hb := F.2.1
  subst hn
  have k := k p l e s m args below meth c H locs ls F J P S hl
  refine lv_dup2_11 hx hb hd ((zc_cat G v).trans hv) ((zc_cat G w).trans hw) ?_
  exact k

theorem z_goto {off : Int} (hd : decode M.2.1 pc = .ok (.goto off, 3)) (ht : (pc : Int) + off = (n : Int)) (k : zW G M B Q n L stk st) : zW G M B Q pc L stk st := by
  intro p l e s m args below meth c H locs ls F J P S hl
  have hx := F.1
  have hb := F.2.1
  refine lv_goto hx hb hd ht ?_
  exact k p l e s m args below meth c H locs ls F J P S hl

theorem z_if_eq {a : Int} {off : Int} {tg : Nat} (hd : decode M.2.1 pc = .ok (.ifCond .eq off, 3)) (hn : pc + 3 = n) (ht : (pc : Int) + off = (tg : Int)) (ha : zr a) (kt : a = 0 → zW G M B Q tg L stk st) (kf : a ≠ 0 → zW G M B Q n L stk st) : zW G M B Q pc L (zI a :: stk) st := by
  intro p l e s m args below meth c H locs ls F J P S hl
  have hx := F.1
  have hb := F.2.1
  subst hn
  exact lv_if_eq hx hb hd ht (fun h => kt ((za_eq0 ha).mp h) p l e s m args below meth c H locs ls F J P S hl) (fun h => kf (fun z => h ((za_eq0 ha).mpr z)) p l e s m args below meth c H locs ls F J P S hl)

theorem z_icmp_eq {a b : Int} {off : Int} {tg : Nat} (hd : decode M.2.1 pc = .ok (.if_icmp .eq off, 3)) (hn : pc + 3 = n) (ht : (pc : Int) + off = (tg : Int)) (ha : zr a) (hb0 : zr b) (kt : a = b → zW G M B Q tg L stk st) (kf : a ≠ b → zW G M B Q n L stk st) : zW G M B Q pc L (zI b :: zI a :: stk) st := by
  intro p l e s m args below meth c H locs ls F J P S hl
  have hx := F.1
  have hb := F.2.1
  subst hn
  exact lv_icmp_eq hx hb hd ht (fun h => kt ((za_eq ha hb0).mp h) p l e s m args below meth c H locs ls F J P S hl) (fun h => kf (fun z => h ((za_eq ha hb0).mpr z)) p l e s m args below meth c H locs ls F J P S hl)

theorem z_if_ne {a : Int} {off : Int} {tg : Nat} (hd : decode M.2.1 pc = .ok (.ifCond .ne off, 3)) (hn : pc + 3 = n) (ht : (pc : Int) + off = (tg : Int)) (ha : zr a) (kt : a ≠ 0 → zW G M B Q tg L stk st) (kf : a = 0 → zW G M B Q n L stk st) : zW G M B Q pc L (zI a :: stk) st := by
  intro p l e s m args below meth c H locs ls F J P S hl
  have hx := F.1
  have hb := F.2.1
  subst hn
  exact lv_if_ne hx hb hd ht (fun h => kt (fun z => h ((za_eq0 ha).mpr z)) p l e s m args below meth c H locs ls F J P S hl) (fun h => kf ((za_eq0 ha).mp h) p l e s m args below meth c H locs ls F J P S hl)

theorem z_icmp_ne {a b : Int} {off : Int} {tg : Nat} (hd : decode M.2.1 pc = .ok (.if_icmp .ne off, 3)) (hn : pc + 3 = n) (ht : (pc : Int) + off = (tg : Int)) (ha : zr a) (hb0 : zr b) (kt : a ≠ b → zW G M B Q tg L stk st) (kf : a = b → zW G M B Q n L stk st) : zW G M B Q pc L (zI b :: zI a :: stk) st := by
  intro p l e s m args below meth c H locs ls F J P S hl
  have hx := F.1
  have hb := F.2.1
  subst hn
  exact lv_icmp_ne hx hb hd ht (fun h => kt (fun z => h ((za_eq ha hb0).mpr z)) p l e s m args below meth c H locs ls F J P S hl) (fun h => kf ((za_eq ha hb0).mp h) p l e s m args below meth c H locs ls F J P S hl)

theorem z_if_lt {a : Int} {off : Int} {tg : Nat} (hd : decode M.2.1 pc = .ok (.ifCond .lt off, 3)) (hn : pc + 3 = n) (ht : (pc : Int) + off = (tg : Int)) (ha : zr a) (kt : a < 0 → zW G M B Q tg L stk st) (kf : 0 ≤ a → zW G M B Q n L stk st) : zW G M B Q pc L (zI a :: stk) st := by
  intro p l e s m args below meth c H locs ls F J P S hl
  have hx := F.1
  have hb := F.2.1
  subst hn
  exact lv_if_lt hx hb hd ht (fun h => kt ((za_lt0 ha).mp h) p l e s m args below meth c H locs ls F J P S hl) (fun h => kf (Int.not_lt.mp (fun z => h ((za_lt0 ha).mpr z))) p l e s m args below meth c H locs ls F J P S hl)

theorem z_icmp_lt {a b : Int} {off : Int} {tg : Nat} (hd : decode M.2.1 pc = .ok (.if_icmp .lt off, 3)) (hn : pc + 3 = n) (ht : (pc : Int) + off = (tg : Int)) (ha : zr a) (hb0 : zr b) (kt : a < b → zW G M B Q tg L stk st) (kf : b ≤ a → zW G M B Q n L stk st) : zW G M B Q pc L (zI b :: zI a :: stk) st := by
  intro p l e s m args below meth c H locs ls F J P S hl
  have hx := F.1
  have hb := F.2.1
  subst hn
  exact lv_icmp_lt hx hb hd ht (fun h => kt ((za_lt ha hb0).mp h) p l e s m args below meth c H locs ls F J P S hl) (fun h => kf (Int.not_lt.mp (fun z => h ((za_lt ha hb0).mpr z))) p l e s m args below meth c H locs ls F J P S hl)

theorem z_if_ge {a : Int} {off : Int} {tg : Nat} (hd : decode M.2.1 pc = .ok (.ifCond .ge off, 3)) (hn : pc + 3 = n) (ht : (pc : Int) + off = (tg : Int)) (ha : zr a) (kt : 0 ≤ a → zW G M B Q tg L stk st) (kf : a < 0 → zW G M B Q n L stk st) : zW G M B Q pc L (zI a :: stk) st := by
  intro p l e s m args below meth c H locs ls F J P S hl
  have hx := F.1
  have hb := F.2.1
  subst hn
  exact lv_if_ge hx hb hd ht (fun h => kt ((za_0le ha).mp h) p l e s m args below meth c H locs ls F J P S hl) (fun h => kf (Int.not_le.mp (fun z => h ((za_0le ha).mpr z))) p l e s m args below meth c H locs ls F J P S hl)

theorem z_icmp_ge {a b : Int} {off : Int} {tg : Nat} (hd : decode M.2.1 pc = .ok (.if_icmp .ge off, 3)) (hn : pc + 3 = n) (ht : (pc : Int) + off = (tg : Int)) (ha : zr a) (hb0 : zr b) (kt : b ≤ a → zW G M B Q tg L stk st) (kf : a < b → zW G M B Q n L stk st) : zW G M B Q pc L (zI b :: zI a :: stk) st := by
  intro p l e s m args below meth c H locs ls F J P S hl
  have hx := F.1
  have hb := F.2.1
  subst hn
  exact lv_icmp_ge hx hb hd ht (fun h => kt ((za_le hb0 ha).mp h) p l e s m args below meth c H locs ls F J P S hl) (fun h => kf (Int.not_le.mp (fun z => h ((za_le hb0 ha).mpr z))) p l e s m args below meth c H locs ls F J P S hl)

theorem z_if_gt {a : Int} {off : Int} {tg : Nat} (hd : decode M.2.1 pc = .ok (.ifCond .gt off, 3)) (hn : pc + 3 = n) (ht : (pc : Int) + off = (tg : Int)) (ha : zr a) (kt : 0 < a → zW G M B Q tg L stk st) (kf : a ≤ 0 → zW G M B Q n L stk st) : zW G M B Q pc L (zI a :: stk) st := by
  intro p l e s m args below meth c H locs ls F J P S hl
  have hx := F.1
  have hb := F.2.1
  subst hn
  exact lv_if_gt hx hb hd ht (fun h => kt ((za_0lt ha).mp h) p l e s m args below meth c H locs ls F J P S hl) (fun h => kf (Int.not_lt.mp (fun z => h ((za_0lt ha).mpr z))) p l e s m args below meth c H locs ls F J P S hl)

theorem z_icmp_gt {a b : Int} {off : Int} {tg : Nat} (hd : decode M.2.1 pc = .ok (.if_icmp .gt off, 3)) (hn : pc + 3 = n) (ht : (pc : Int) + off = (tg : Int)) (ha : zr a) (hb0 : zr b) (kt : b < a → zW G M B Q tg L stk st) (kf : a ≤ b → zW G M B Q n L stk st) : zW G M B Q pc L (zI b :: zI a :: stk) st := by
  intro p l e s m args below meth c H locs ls F J P S hl
  have hx := F.1
  have hb := F.2.1
  subst hn
  exact lv_icmp_gt hx hb hd ht (fun h => kt ((za_lt hb0 ha).mp h) p l e s m args below meth c H locs ls F J P S hl) (fun h => kf (Int.not_lt.mp (fun z => h ((za_lt hb0 ha).mpr z))) p l e s m args below meth c H locs ls F J P S hl)

theorem z_if_le {a : Int} {off : Int} {tg : Nat} (hd : decode M.2.1 pc = .ok (.ifCond .le off, 3)) (hn : pc + 3 = n) (ht : (pc : Int) + off = (tg : Int)) (ha : zr a) (kt : a ≤ 0 → zW G M B Q tg L stk st) (kf : 0 < a → zW G M B Q n L stk st) : zW G M B Q pc L (zI a :: stk) st := by
  intro p l e s m args below meth c H locs ls F J P S hl
  have hx := F.1
  have hb := F.2.1
  subst hn
  exact lv_if_le hx hb hd ht (fun h => kt ((za_le0 ha).mp h) p l e s m args below meth c H locs ls F J P S hl) (fun h => kf (Int.not_le.mp (fun z => h ((za_le0 ha).mpr z))) p l e s m args below meth c H locs ls F J P S hl)

theorem z_icmp_le {a b : Int} {off : Int} {tg : Nat} (hd : decode M.2.1 pc = .ok (.if_icmp .le off, 3)) (hn : pc + 3 = n) (ht : (pc : Int) + off = (tg : Int)) (ha : zr a) (hb0 : zr b) (kt : a ≤ b → zW G M B Q tg L stk st) (kf : b < a → zW G M B Q n L stk st) : zW G M B Q pc L (zI b :: zI a :: stk) st := by
  intro p l e s m args below meth c H locs ls F J P S hl
  have hx := F.1
  have hb := F.2.1
  subst hn
  exact lv_icmp_le hx hb hd ht (fun h => kt ((za_le ha hb0).mp h) p l e s m args below meth c H locs ls F J P S hl) (fun h => kf (Int.not_le.mp (fun z => h ((za_le ha hb0).mpr z))) p l e s m args below meth c H locs ls F J P S hl)

/-- 1 or 0 -/
noncomputable def zb (p : Prop) : Int := @ite Int p (Classical.propDecidable p) 1 0
theorem zb_t {p : Prop} (h : p) : zb p = 1 := if_pos h
theorem zb_f {p : Prop} (h : ¬ p) : zb p = 0 := if_neg h
theorem zb_r (p : Prop) : 0 ≤ zb p ∧ zb p ≤ 1 := by
  by_cases h : p
  · rw [zb_t h]; decide
  · rw [zb_f h]; decide
theorem zb_or (p : Prop) : zb p = 0 ∨ zb p = 1 := by
  by_cases h : p
  · rw [zb_t h]; decide
  · rw [zb_f h]; decide
theorem zb_zr (p : Prop) : zr (zb p) := by
  have := zb_r p
  exact ⟨by omega, by omega⟩
theorem zb_iff {p q : Prop} (h : p ↔ q) : zb p = zb q := by rw [propext h]
theorem zb_1 {p : Prop} : zb p = 1 ↔ p := ⟨fun h => Classical.byContradiction (fun z => by rw [zb_f z] at h; exact absurd h (by decide)), zb_t⟩
theorem zb_0 {p : Prop} : zb p = 0 ↔ ¬ p := ⟨fun h z => by rw [zb_t z] at h; exact absurd h (by decide), zb_f⟩
theorem z_ifB_eq {p : Prop} {off : Int} {tg : Nat} (hd : decode M.2.1 pc = .ok (.ifCond .eq off, 3)) (hn : pc + 3 = n) (ht : (pc : Int) + off = (tg : Int)) (kt : ¬ p → zW G M B Q tg L stk st) (kf : p → zW G M B Q n L stk st) : zW G M B Q pc L (zI (zb p) :: stk) st := z_if_eq hd hn ht (zb_zr p) (fun h => kt (zb_0.mp h)) (fun h => kf (Classical.byContradiction (fun z => h (zb_f z))))
theorem z_ifB_ne {p : Prop} {off : Int} {tg : Nat} (hd : decode M.2.1 pc = .ok (.ifCond .ne off, 3)) (hn : pc + 3 = n) (ht : (pc : Int) + off = (tg : Int)) (kt : p → zW G M B Q tg L stk st) (kf : ¬ p → zW G M B Q n L stk st) : zW G M B Q pc L (zI (zb p) :: stk) st := z_if_ne hd hn ht (zb_zr p) (fun h => kt (Classical.byContradiction (fun z => h (zb_f z)))) (fun h => kf (zb_0.mp h))

theorem z_iload_0 {r : List (Option zV)} {v : Int} (hd : decode M.2.1 pc = .ok (.iload_n 0, 1)) (hn : pc + 1 = n) (k : zW G M B Q n (some (zI v) :: r) (zI v :: stk) st) : zW G M B Q pc (some (zI v) :: r) stk st := by
  intro p l e s m args below meth c H locs ls F J P S hl
  have hx := F.1
  have hb := F.2.1
  subst hn
  have k := k p l e s m args below meth c H locs ls F J P S hl
  refine lv_iload_n (i := 0) hx hb hd rfl (hl.2.2 0 (zI v) rfl) ?_
  exact k

theorem z_istore_0 {y : Option zV} {r : List (Option zV)} {v : Int} (hd : decode M.2.1 pc = .ok (.istore_n 0, 1)) (hn : pc + 1 = n) (hL : 0 < M.2.2.1) (k : zW G M B Q n (some (zI v) :: r) stk st) : zW G M B Q pc (y :: r) (zI v :: stk) st := by
  intro p l e s m args below meth c H locs ls F J P S hl
  have hx := F.1
  have hb := F.2.1
  subst hn
  refine lv_istore_n (i := 0) hx hb hd rfl hl.has hL rfl (fun ls' hl' => ?_)
  refine k p l e s m args below meth c H locs ls' F J P S (zls.put1 (v := zI v) hl' (fun j w hj => ?_))
  by_cases hjk : j = 0
  · subst hjk
    refine Or.inl ⟨rfl, ?_⟩
    have h9 : (some (zI v)) = some w := by simpa using hj
    exact (Option.some.inj h9).symm
  · refine Or.inr ⟨hjk, ?_, (fun e => absurd e (by omega))⟩
    rw [← hj]
    exact z_lset 0 rfl j hjk

theorem z_aload_0 {r : List (Option zV)} {v : Nat} (hd : decode M.2.1 pc = .ok (.aload_n 0, 1)) (hn : pc + 1 = n) (k : zW G M B Q n (some (zR v) :: r) (zR v :: stk) st) : zW G M B Q pc (some (zR v) :: r) stk st := by
  intro p l e s m args below meth c H locs ls F J P S hl
  have hx := F.1
  have hb := F.2.1
  subst hn
  have k := k p l e s m args below meth c H locs ls F J P S hl
  refine lv_aload_n (i := 0) hx hb hd rfl (hl.2.2 0 (zR v) rfl) ?_
  exact k

theorem z_lload_0 {r : List (Option zV)} {v : Int} (hd : decode M.2.1 pc = .ok (.lload_n 0, 1)) (hn : pc + 1 = n) (k : zW G M B Q n (some (zL v) :: r) (zL v :: stk) st) : zW G M B Q pc (some (zL v) :: r) stk st := by
  intro p l e s m args below meth c H locs ls F J P S hl
  have hx := F.1
  have hb := F.2.1
  subst hn
  have k := k p l e s m args below meth c H locs ls F J P S hl
  refine lv_lload_n (i := 0) hx hb hd rfl (hl.2.2 0 (zL v) rfl) ?_
  exact k

theorem z_iinc_0 {r : List (Option zV)} {v i : Int} (hd : decode M.2.1 pc = .ok (.iinc 0 i, 3)) (hn : pc + 3 = n) (hL : 0 < M.2.2.1) (k : zW G M B Q n (some (zI (v + i)) :: r) stk st) : zW G M B Q pc (some (zI v) :: r) stk st := by
  intro p l e s m args below meth c H locs ls F J P S hl
  have hx := F.1
  have hb := F.2.1
  subst hn
  obtain ⟨q, hq⟩ := List.getElem?_of_mem ((zas_mem (G := G) _ 0 (0, zc G (zI v))).mpr ⟨0, zI v, (rfl : (some (zI v) :: r)[0]? = some (some (zI v))), by simp⟩)
  refine lv_iinc (k := q) (v := Int32.ofInt (v + i)) hx hb hd hl.has hq (za_add v i) hL rfl (fun ls' hl' => ?_)
  refine k p l e s m args below meth c H locs ls' F J P S (zls.put1 (v := zI (v + i)) hl' (fun j w hj => ?_))
  by_cases hjk : j = 0
  · subst hjk
    refine Or.inl ⟨rfl, ?_⟩
    have h9 : (some (zI (v + i))) = some w := by simpa using hj
    exact (Option.some.inj h9).symm
  · refine Or.inr ⟨hjk, ?_, (fun e => absurd e (by omega))⟩
    rw [← hj]
    exact z_lset 0 rfl j hjk

theorem z_iload_1 {x0 : Option zV} {r : List (Option zV)} {v : Int} (hd : decode M.2.1 pc = .ok (.iload_n 1, 1)) (hn : pc + 1 = n) (k : zW G M B Q n (x0 :: some (zI v) :: r) (zI v :: stk) st) : zW G M B Q pc (x0 :: some (zI v) :: r) stk st := by
  intro p l e s m args below meth c H locs ls F J P S hl
  have hx := F.1
  have hb := F.2.1
  subst hn
  have k := k p l e s m args below meth c H locs ls F J P S hl
  refine lv_iload_n (i := 1) hx hb hd rfl (hl.2.2 1 (zI v) rfl) ?_
  exact k

theorem z_istore_1 {x0 : Option zV} {y : Option zV} {r : List (Option zV)} {v : Int} (hd : decode M.2.1 pc = .ok (.istore_n 1, 1)) (hn : pc + 1 = n) (hL : 1 < M.2.2.1) (hc : ∀ w, x0 = some w → zcat w = 1) (k : zW G M B Q n (x0 :: some (zI v) :: r) stk st) : zW G M B Q pc (x0 :: y :: r) (zI v :: stk) st := by
  intro p l e s m args below meth c H locs ls F J P S hl
  have hx := F.1
  have hb := F.2.1
  subst hn
  refine lv_istore_n (i := 1) hx hb hd rfl hl.has hL rfl (fun ls' hl' => ?_)
  refine k p l e s m args below meth c H locs ls' F J P S (zls.put1 (v := zI v) hl' (fun j w hj => ?_))
  by_cases hjk : j = 1
  · subst hjk
    refine Or.inl ⟨rfl, ?_⟩
    have h9 : (some (zI v)) = some w := by simpa using hj
    exact (Option.some.inj h9).symm
  · refine Or.inr ⟨hjk, ?_, (fun e => hc w (by have e2 : j = 0 := (by omega); subst e2; simpa using hj))⟩
    rw [← hj]
    exact z_lset 1 rfl j hjk

theorem z_aload_1 {x0 : Option zV} {r : List (Option zV)} {v : Nat} (hd : decode M.2.1 pc = .ok (.aload_n 1, 1)) (hn : pc + 1 = n) (k : zW G M B Q n (x0 :: some (zR v) :: r) (zR v :: stk) st) : zW G M B Q pc (x0 :: some (zR v) :: r) stk st := by
  intro p l e s m args below meth c H locs ls F J P S hl
  have hx := F.1
  have hb := F.2.1
  subst hn
  have k := k p l e s m args below meth c H locs ls F J P S hl
  refine lv_aload_n (i := 1) hx hb hd rfl (hl.2.2 1 (zR v) rfl) ?_
  exact k

theorem z_astore_1 {x0 : Option zV} {y : Option zV} {r : List (Option zV)} {v : Nat} (hd : decode M.2.1 pc = .ok (.astore_n 1, 1)) (hn : pc + 1 = n) (hL : 1 < M.2.2.1) (hc : ∀ w, x0 = some w → zcat w = 1) (k : zW G M B Q n (x0 :: some (zR v) :: r) stk st) : zW G M B Q pc (x0 :: y :: r) (zR v :: stk) st := by
  intro p l e s m args below meth c H locs ls F J P S hl
  have hx := F.1
  have hb := F.2.1
  subst hn
  refine lv_astore_n (i := 1) hx hb hd rfl hl.has hL rfl (fun ls' hl' => ?_)
  refine k p l e s m args below meth c H locs ls' F J P S (zls.put1 (v := zR v) hl' (fun j w hj => ?_))
  by_cases hjk : j = 1
  · subst hjk
    refine Or.inl ⟨rfl, ?_⟩
    have h9 : (some (zR v)) = some w := by simpa using hj
    exact (Option.some.inj h9).symm
  · refine Or.inr ⟨hjk, ?_, (fun e => hc w (by have e2 : j = 0 := (by omega); subst e2; simpa using hj))⟩
    rw [← hj]
    exact z_lset 1 rfl j hjk

theorem z_lload_1 {x0 : Option zV} {r : List (Option zV)} {v : Int} (hd : decode M.2.1 pc = .ok (.lload_n 1, 1)) (hn : pc + 1 = n) (k : zW G M B Q n (x0 :: some (zL v) :: r) (zL v :: stk) st) : zW G M B Q pc (x0 :: some (zL v) :: r) stk st := by
  intro p l e s m args below meth c H locs ls F J P S hl
  have hx := F.1
  have hb := F.2.1
  subst hn
  have k := k p l e s m args below meth c H locs ls F J P S hl
  refine lv_lload_n (i := 1) hx hb hd rfl (hl.2.2 1 (zL v) rfl) ?_
  exact k

theorem z_lstore_1 {x0 : Option zV} {y y2 : Option zV} {r : List (Option zV)} {v : Int} (hd : decode M.2.1 pc = .ok (.lstore_n 1, 1)) (hn : pc + 1 = n) (hL : 1 + 1 < M.2.2.1) (hc : ∀ w, x0 = some w → zcat w = 1) (k : zW G M B Q n (x0 :: some (zL v) :: none :: r) stk st) : zW G M B Q pc (x0 :: y :: y2 :: r) (zL v :: stk) st := by
  intro p l e s m args below meth c H locs ls F J P S hl
  have hx := F.1
  have hb := F.2.1
  subst hn
  refine lv_lstore_n (i := 1) hx hb hd rfl hl.has hL rfl (fun ls' hl' => ?_)
  refine k p l e s m args below meth c H locs ls' F J P S (zls.put2 (v := zL v) hl' (fun j w hj => ?_))
  by_cases hjk : j = 1
  · subst hjk
    refine Or.inl ⟨rfl, ?_⟩
    have h9 : (some (zL v)) = some w := by simpa using hj
    exact (Option.some.inj h9).symm
  · by_cases hj2 : j = 1 + 1
    · subst hj2
      have h9 : (none : Option zV) = some w := by simpa using hj
      cases h9
    · refine Or.inr ⟨hjk, hj2, ?_, (fun e => hc w (by have e2 : j = 0 := (by omega); subst e2; simpa using hj))⟩
      rw [← hj]
      exact z_lset2 1 rfl j hjk hj2

theorem z_iinc_1 {x0 : Option zV} {r : List (Option zV)} {v i : Int} (hd : decode M.2.1 pc = .ok (.iinc 1 i, 3)) (hn : pc + 3 = n) (hL : 1 < M.2.2.1) (hc : ∀ w, x0 = some w → zcat w = 1) (k : zW G M B Q n (x0 :: some (zI (v + i)) :: r) stk st) : zW G M B Q pc (x0 :: some (zI v) :: r) stk st := by
  intro p l e s m args below meth c H locs ls F J P S hl
  have hx := F.1
  have hb := F.2.1
  subst hn
  obtain ⟨q, hq⟩ := List.getElem?_of_mem ((zas_mem (G := G) _ 0 (1, zc G (zI v))).mpr ⟨1, zI v, (rfl : (x0 :: some (zI v) :: r)[1]? = some (some (zI v))), by simp⟩)
  refine lv_iinc (k := q) (v := Int32.ofInt (v + i)) hx hb hd hl.has hq (za_add v i) hL rfl (fun ls' hl' => ?_)
  refine k p l e s m args below meth c H locs ls' F J P S (zls.put1 (v := zI (v + i)) hl' (fun j w hj => ?_))
  by_cases hjk : j = 1
  · subst hjk
    refine Or.inl ⟨rfl, ?_⟩
    have h9 : (some (zI (v + i))) = some w := by simpa using hj
    exact (Option.some.inj h9).symm
  · refine Or.inr ⟨hjk, ?_, (fun e => hc w (by have e2 : j = 0 := (by omega); subst e2; simpa using hj))⟩
    rw [← hj]
    exact z_lset 1 rfl j hjk

theorem z_iload_2 {x0 x1 : Option zV} {r : List (Option zV)} {v : Int} (hd : decode M.2.1 pc = .ok (.iload_n 2, 1)) (hn : pc + 1 = n) (k : zW G M B Q n (x0 :: x1 :: some (zI v) :: r) (zI v :: stk) st) : zW G M B Q pc (x0 :: x1 :: some (zI v) :: r) stk st := by
  intro p l e s m args below meth c H locs ls F J P S hl
  have hx := F.1
  have hb := F.2.1
  subst hn
  have k := k p l e s m args below meth c H locs ls F J P S hl
  refine lv_iload_n (i := 2) hx hb hd rfl (hl.2.2 2 (zI v) rfl) ?_
  exact k

theorem z_istore_2 {x0 x1 : Option zV} {y : Option zV} {r : List (Option zV)} {v : Int} (hd : decode M.2.1 pc = .ok (.istore_n 2, 1)) (hn : pc + 1 = n) (hL : 2 < M.2.2.1) (hc : ∀ w, x1 = some w → zcat w = 1) (k : zW G M B Q n (x0 :: x1 :: some (zI v) :: r) stk st) : zW G M B Q pc (x0 :: x1 :: y :: r) (zI v :: stk) st := by
  intro p l e s m args below meth c H locs ls F J P S hl
  have hx := F.1
  have hb := F.2.1
  subst hn
  refine lv_istore_n (i := 2) hx hb hd rfl hl.has hL rfl (fun ls' hl' => ?_)
  refine k p l e s m args below meth c H locs ls' F J P S (zls.put1 (v := zI v) hl' (fun j w hj => ?_))
  by_cases hjk : j = 2
  · subst hjk
    refine Or.inl ⟨rfl, ?_⟩
    have h9 : (some (zI v)) = some w := by simpa using hj
    exact (Option.some.inj h9).symm
  · refine Or.inr ⟨hjk, ?_, (fun e => hc w (by have e2 : j = 1 := (by omega); subst e2; simpa using hj))⟩
    rw [← hj]
    exact z_lset 2 rfl j hjk

theorem z_aload_2 {x0 x1 : Option zV} {r : List (Option zV)} {v : Nat} (hd : decode M.2.1 pc = .ok (.aload_n 2, 1)) (hn : pc + 1 = n) (k : zW G M B Q n (x0 :: x1 :: some (zR v) :: r) (zR v :: stk) st) : zW G M B Q pc (x0 :: x1 :: some (zR v) :: r) stk st := by
  intro p l e s m args below meth c H locs ls F J P S hl
  have hx := F.1
  have hb := F.2.1
  subst hn
  have k := k p l e s m args below meth c H locs ls F J P S hl
  refine lv_aload_n (i := 2) hx hb hd rfl (hl.2.2 2 (zR v) rfl) ?_
  exact k

theorem z_astore_2 {x0 x1 : Option zV} {y : Option zV} {r : List (Option zV)} {v : Nat} (hd : decode M.2.1 pc = .ok (.astore_n 2, 1)) (hn : pc + 1 = n) (hL : 2 < M.2.2.1) (hc : ∀ w, x1 = some w → zcat w = 1) (k : zW G M B Q n (x0 :: x1 :: some (zR v) :: r) stk st) : zW G M B Q pc (x0 :: x1 :: y :: r) (zR v :: stk) st := by
  intro p l e s m args below meth c H locs ls F J P S hl
  have hx := F.1
  have hb := F.2.1
  subst hn
  refine lv_astore_n (i := 2) hx hb hd rfl hl.has hL rfl (fun ls' hl' => ?_)
  refine k p l e s m args below meth c H locs ls' F J P S (zls.put1 (v := zR v) hl' (fun j w hj => ?_))
  by_cases hjk : j = 2
  · subst hjk
    refine Or.inl ⟨rfl, ?_⟩
    have h9 : (some (zR v)) = some w := by simpa using hj
    exact (Option.some.inj h9).symm
  · refine Or.inr ⟨hjk, ?_, (fun e => hc w (by have e2 : j = 1 := (by omega); subst e2; simpa using hj))⟩
    rw [← hj]
    exact z_lset 2 rfl j hjk

theorem z_lload_2 {x0 x1 : Option zV} {r : List (Option zV)} {v : Int} (hd : decode M.2.1 pc = .ok (.lload_n 2, 1)) (hn : pc + 1 = n) (k : zW G M B Q n (x0 :: x1 :: some (zL v) :: r) (zL v :: stk) st) : zW G M B Q pc (x0 :: x1 :: some (zL v) :: r) stk st := by
  intro p l e s m args below meth c H locs ls F J P S hl
  have hx := F.1
  have hb := F.2.1
  subst hn
  have k := k p l e s m args below meth c H locs ls F J P S hl
  refine lv_lload_n (i := 2) hx hb hd rfl (hl.2.2 2 (zL v) rfl) ?_
  exact k

theorem z_lstore_2 {x0 x1 : Option zV} {y y2 : Option zV} {r : List (Option zV)} {v : Int} (hd : decode M.2.1 pc = .ok (.lstore_n 2, 1)) (hn : pc + 1 = n) (hL : 2 + 1 < M.2.2.1) (hc : ∀ w, x1 = some w → zcat w = 1) (k : zW G M B Q n (x0 :: x1 :: some (zL v) :: none :: r) stk st) : zW G M B Q pc (x0 :: x1 :: y :: y2 :: r) (zL v :: stk) st := by
  intro p l e s m args below meth c H locs ls F J P S hl
  have hx := F.1
  have hb := F.2.1
  subst hn
  refine lv_lstore_n (i := 2) hx hb hd rfl hl.has hL rfl (fun ls' hl' => ?_)
  refine k p l e s m args below meth c H locs ls' F J P S (zls.put2 (v := zL v) hl' (fun j w hj => ?_))
  by_cases hjk : j = 2
  · subst hjk
    refine Or.inl ⟨rfl, ?_⟩
    have h9 : (some (zL v)) = some w := by simpa using hj
    exact (Option.some.inj h9).symm
  · by_cases hj2 : j = 2 + 1
    · subst hj2
      have h9 : (none : Option zV) = some w := by simpa using hj
      cases h9
    · refine Or.inr ⟨hjk, hj2, ?_, (fun e => hc w (by have e2 : j = 1 := (by omega); subst e2; simpa using hj))⟩
      rw [← hj]
      exact z_lset2 2 rfl j hjk hj2

theorem z_iinc_2 {x0 x1 : Option zV} {r : List (Option zV)} {v i : Int} (hd : decode M.2.1 pc = .ok (.iinc 2 i, 3)) (hn : pc + 3 = n) (hL : 2 < M.2.2.1) (hc : ∀ w, x1 = some w → zcat w = 1) (k : zW G M B Q n (x0 :: x1 :: some (zI (v + i)) :: r) stk st) : zW G M B Q pc (x0 :: x1 :: some (zI v) :: r) stk st := by
  intro p l e s m args below meth c H locs ls F J P S hl
  have hx := F.1
  have hb := F.2.1
  subst hn
  obtain ⟨q, hq⟩ := List.getElem?_of_mem ((zas_mem (G := G) _ 0 (2, zc G (zI v))).mpr ⟨2, zI v, (rfl : (x0 :: x1 :: some (zI v) :: r)[2]? = some (some (zI v))), by simp⟩)
  refine lv_iinc (k := q) (v := Int32.ofInt (v + i)) hx hb hd hl.has hq (za_add v i) hL rfl (fun ls' hl' => ?_)
  refine k p l e s m args below meth c H locs ls' F J P S (zls.put1 (v := zI (v + i)) hl' (fun j w hj => ?_))
  by_cases hjk : j = 2
  · subst hjk
    refine Or.inl ⟨rfl, ?_⟩
    have h9 : (some (zI (v + i))) = some w := by simpa using hj
    exact (Option.some.inj h9).symm
  · refine Or.inr ⟨hjk, ?_, (fun e => hc w (by have e2 : j = 1 := (by omega); subst e2; simpa using hj))⟩
    rw [← hj]
    exact z_lset 2 rfl j hjk

theorem z_iload_3 {x0 x1 x2 : Option zV} {r : List (Option zV)} {v : Int} (hd : decode M.2.1 pc = .ok (.iload_n 3, 1)) (hn : pc + 1 = n) (k : zW G M B Q n (x0 :: x1 :: x2 :: some (zI v) :: r) (zI v :: stk) st) : zW G M B Q pc (x0 :: x1 :: x2 :: some (zI v) :: r) stk st := by
  intro p l e s m args below meth c H locs ls F J P S hl
  have hx := F.1
  have hb := F.2.1
  subst hn
  have k := k p l e s m args below meth c H locs ls F J P S hl
  refine lv_iload_n (i := 3) hx hb hd rfl (hl.2.2 3 (zI v) rfl) ?_
  exact k

theorem z_istore_3 {x0 x1 x2 : Option zV} {y : Option zV} {r : List (Option zV)} {v : Int} (hd : decode M.2.1 pc = .ok (.istore_n 3, 1)) (hn : pc + 1 = n) (hL : 3 < M.2.2.1) (hc : ∀ w, x2 = some w → zcat w = 1) (k : zW G M B Q n (x0 :: x1 :: x2 :: some (zI v) :: r) stk st) : zW G M B Q pc (x0 :: x1 :: x2 :: y :: r) (zI v :: stk) st := by
  intro p l e s m args below meth c H locs ls F J P S hl
  have hx := F.1
  have hb := F.2.1
  subst hn
  refine lv_istore_n (i := 3) hx hb hd rfl hl.has hL rfl (fun ls' hl' => ?_)
  refine k p l e s m args below meth c H locs ls' F J P S (zls.put1 (v := zI v) hl' (fun j w hj => ?_))
  by_cases hjk : j = 3
  · subst hjk
    refine Or.inl ⟨rfl, ?_⟩
    have h9 : (some (zI v)) = some w := by simpa using hj
    exact (Option.some.inj h9).symm
  · refine Or.inr ⟨hjk, ?_, (fun e => hc w (by have e2 : j = 2 := (by omega); subst e2; simpa using hj))⟩
    rw [← hj]
    exact z_lset 3 rfl j hjk

theorem z_aload_3 {x0 x1 x2 : Option zV} {r : List (Option zV)} {v : Nat} (hd : decode M.2.1 pc = .ok (.aload_n 3, 1)) (hn : pc + 1 = n) (k : zW G M B Q n (x0 :: x1 :: x2 :: some (zR v) :: r) (zR v :: stk) st) : zW G M B Q pc (x0 :: x1 :: x2 :: some (zR v) :: r) stk st := by
  intro p l e s m args below meth c H locs ls F J P S hl
  have hx := F.1
  have hb := F.2.1
  subst hn
  have k := k p l e s m args below meth c H locs ls F J P S hl
  refine lv_aload_n (i := 3) hx hb hd rfl (hl.2.2 3 (zR v) rfl) ?_
  exact k

theorem z_astore_3 {x0 x1 x2 : Option zV} {y : Option zV} {r : List (Option zV)} {v : Nat} (hd : decode M.2.1 pc = .ok (.astore_n 3, 1)) (hn : pc + 1 = n) (hL : 3 < M.2.2.1) (hc : ∀ w, x2 = some w → zcat w = 1) (k : zW G M B Q n (x0 :: x1 :: x2 :: some (zR v) :: r) stk st) : zW G M B Q pc (x0 :: x1 :: x2 :: y :: r) (zR v :: stk) st := by
  intro p l e s m args below meth c H locs ls F J P S hl
  have hx := F.1
  have hb := F.2.1
  subst hn
  refine lv_astore_n (i := 3) hx hb hd rfl hl.has hL rfl (fun ls' hl' => ?_)
  refine k p l e s m args below meth c H locs ls' F J P S (zls.put1 (v := zR v) hl' (fun j w hj => ?_))
  by_cases hjk : j = 3
  · subst hjk
    refine Or.inl ⟨rfl, ?_⟩
    have h9 : (some (zR v)) = some w := by simpa using hj
    exact (Option.some.inj h9).symm
  · refine Or.inr ⟨hjk, ?_, (fun e => hc w (by have e2 : j = 2 := (by omega); subst e2; simpa using hj))⟩
    rw [← hj]
    exact z_lset 3 rfl j hjk

theorem z_lload_3 {x0 x1 x2 : Option zV} {r : List (Option zV)} {v : Int} (hd : decode M.2.1 pc = .ok (.lload_n 3, 1)) (hn : pc + 1 = n) (k : zW G M B Q n (x0 :: x1 :: x2 :: some (zL v) :: r) (zL v :: stk) st) : zW G M B Q pc (x0 :: x1 :: x2 :: some (zL v) :: r) stk st := by
  intro p l e s m args below meth c H locs ls F J P S hl
  have hx := F.1
  have hb := F.2.1
  subst hn
  have k := k p l e s m args below meth c H locs ls F J P S hl
  refine lv_lload_n (i := 3) hx hb hd rfl (hl.2.2 3 (zL v) rfl) ?_
  exact k

theorem z_lstore_3 {x0 x1 x2 : Option zV} {y y2 : Option zV} {r : List (Option zV)} {v : Int} (hd : decode M.2.1 pc = .ok (.lstore_n 3, 1)) (hn : pc + 1 = n) (hL : 3 + 1 < M.2.2.1) (hc : ∀ w, x2 = some w → zcat w = 1) (k : zW G M B Q n (x0 :: x1 :: x2 :: some (zL v) :: none :: r) stk st) : zW G M B Q pc (x0 :: x1 :: x2 :: y :: y2 :: r) (zL v :: stk) st := by
  intro p l e s m args below meth c H locs ls F J P S hl
  have hx := F.1
  have hb := F.2.1
  subst hn
  refine lv_lstore_n (i := 3) hx hb hd rfl hl.has hL rfl (fun ls' hl' => ?_)
  refine k p l e s m args below meth c H locs ls' F J P S (zls.put2 (v := zL v) hl' (fun j w hj => ?_))
  by_cases hjk : j = 3
  · subst hjk
    refine Or.inl ⟨rfl, ?_⟩
    have h9 : (some (zL v)) = some w := by simpa using hj
    exact (Option.some.inj h9).symm
  · by_cases hj2 : j = 3 + 1
    · subst hj2
      have h9 : (none : Option zV) = some w := by simpa using hj
      cases h9
    · refine Or.inr ⟨hjk, hj2, ?_, (fun e => hc w (by have e2 : j = 2 := (by omega); subst e2; simpa using hj))⟩
      rw [← hj]
      exact z_lset2 3 rfl j hjk hj2

theorem z_iinc_3 {x0 x1 x2 : Option zV} {r : List (Option zV)} {v i : Int} (hd : decode M.2.1 pc = .ok (.iinc 3 i, 3)) (hn : pc + 3 = n) (hL : 3 < M.2.2.1) (hc : ∀ w, x2 = some w → zcat w = 1) (k : zW G M B Q n (x0 :: x1 :: x2 :: some (zI (v + i)) :: r) stk st) : zW G M B Q pc (x0 :: x1 :: x2 :: some (zI v) :: r) stk st := by
  intro p l e s m args below meth c H locs ls F J P S hl
  have hx := F.1
  have hb := F.2.1
  subst hn
  obtain ⟨q, hq⟩ := List.getElem?_of_mem ((zas_mem (G := G) _ 0 (3, zc G (zI v))).mpr ⟨3, zI v, (rfl : (x0 :: x1 :: x2 :: some (zI v) :: r)[3]? = some (some (zI v))), by simp⟩)
  refine lv_iinc (k := q) (v := Int32.ofInt (v + i)) hx hb hd hl.has hq (za_add v i) hL rfl (fun ls' hl' => ?_)
  refine k p l e s m args below meth c H locs ls' F J P S (zls.put1 (v := zI (v + i)) hl' (fun j w hj => ?_))
  by_cases hjk : j = 3
  · subst hjk
    refine Or.inl ⟨rfl, ?_⟩
    have h9 : (some (zI (v + i))) = some w := by simpa using hj
    exact (Option.some.inj h9).symm
  · refine Or.inr ⟨hjk, ?_, (fun e => hc w (by have e2 : j = 2 := (by omega); subst e2; simpa using hj))⟩
    rw [← hj]
    exact z_lset 3 rfl j hjk

theorem z_iload_4 {x0 x1 x2 x3 : Option zV} {r : List (Option zV)} {v : Int} (hd : decode M.2.1 pc = .ok (.iload 4, 2)) (hn : pc + 2 = n) (k : zW G M B Q n (x0 :: x1 :: x2 :: x3 :: some (zI v) :: r) (zI v :: stk) st) : zW G M B Q pc (x0 :: x1 :: x2 :: x3 :: some (zI v) :: r) stk st := by
  intro p l e s m args below meth c H locs ls F J P S hl
  have hx := F.1
  have hb := F.2.1
  subst hn
  have k := k p l e s m args below meth c H locs ls F J P S hl
  refine lv_iload hx hb hd (hl.2.2 4 (zI v) rfl) ?_
  exact k

theorem z_istore_4 {x0 x1 x2 x3 : Option zV} {y : Option zV} {r : List (Option zV)} {v : Int} (hd : decode M.2.1 pc = .ok (.istore 4, 2)) (hn : pc + 2 = n) (hL : 4 < M.2.2.1) (hc : ∀ w, x3 = some w → zcat w = 1) (k : zW G M B Q n (x0 :: x1 :: x2 :: x3 :: some (zI v) :: r) stk st) : zW G M B Q pc (x0 :: x1 :: x2 :: x3 :: y :: r) (zI v :: stk) st := by
  intro p l e s m args below meth c H locs ls F J P S hl
  have hx := F.1
  have hb := F.2.1
  subst hn
  refine lv_istore hx hb hd hl.has hL rfl (fun ls' hl' => ?_)
  refine k p l e s m args below meth c H locs ls' F J P S (zls.put1 (v := zI v) hl' (fun j w hj => ?_))
  by_cases hjk : j = 4
  · subst hjk
    refine Or.inl ⟨rfl, ?_⟩
    have h9 : (some (zI v)) = some w := by simpa using hj
    exact (Option.some.inj h9).symm
  · refine Or.inr ⟨hjk, ?_, (fun e => hc w (by have e2 : j = 3 := (by omega); subst e2; simpa using hj))⟩
    rw [← hj]
    exact z_lset 4 rfl j hjk

theorem z_aload_4 {x0 x1 x2 x3 : Option zV} {r : List (Option zV)} {v : Nat} (hd : decode M.2.1 pc = .ok (.aload 4, 2)) (hn : pc + 2 = n) (k : zW G M B Q n (x0 :: x1 :: x2 :: x3 :: some (zR v) :: r) (zR v :: stk) st) : zW G M B Q pc (x0 :: x1 :: x2 :: x3 :: some (zR v) :: r) stk st := by
  intro p l e s m args below meth c H locs ls F J P S hl
  have hx := F.1
  have hb := F.2.1
  subst hn
  have k := k p l e s m args below meth c H locs ls F J P S hl
  refine lv_aload hx hb hd (hl.2.2 4 (zR v) rfl) ?_
  exact k

theorem z_astore_4 {x0 x1 x2 x3 : Option zV} {y : Option zV} {r : List (Option zV)} {v : Nat} (hd : decode M.2.1 pc = .ok (.astore 4, 2)) (hn : pc + 2 = n) (hL : 4 < M.2.2.1) (hc : ∀ w, x3 = some w → zcat w = 1) (k : zW G M B Q n (x0 :: x1 :: x2 :: x3 :: some (zR v) :: r) stk st) : zW G M B Q pc (x0 :: x1 :: x2 :: x3 :: y :: r) (zR v :: stk) st := by
  intro p l e s m args below meth c H locs ls F J P S hl
  have hx := F.1
  have hb := F.2.1
  subst hn
  refine lv_astore hx hb hd hl.has hL rfl (fun ls' hl' => ?_)
  refine k p l e s m args below meth c H locs ls' F J P S (zls.put1 (v := zR v) hl' (fun j w hj => ?_))
  by_cases hjk : j = 4
  · subst hjk
    refine Or.inl ⟨rfl, ?_⟩
    have h9 : (some (zR v)) = some w := by simpa using hj
    exact (Option.some.inj h9).symm
  · refine Or.inr ⟨hjk, ?_, (fun e => hc w (by have e2 : j = 3 := (by omega); subst e2; simpa using hj))⟩
    rw [← hj]
    exact z_lset 4 rfl j hjk

theorem z_lload_4 {x0 x1 x2 x3 : Option zV} {r : List (Option zV)} {v : Int} (hd : decode M.2.1 pc = .ok (.lload 4, 2)) (hn : pc + 2 = n) (k : zW G M B Q n (x0 :: x1 :: x2 :: x3 :: some (zL v) :: r) (zL v :: stk) st) : zW G M B Q pc (x0 :: x1 :: x2 :: x3 :: some (zL v) :: r) stk st := by
  intro p l e s m args below meth c H locs ls F J P S hl
  have hx := F.1
  have hb := F.2.1
  subst hn
  have k := k p l e s m args below meth c H locs ls F J P S hl
  refine lv_lload hx hb hd (hl.2.2 4 (zL v) rfl) ?_
  exact k

theorem z_lstore_4 {x0 x1 x2 x3 : Option zV} {y y2 : Option zV} {r : List (Option zV)} {v : Int} (hd : decode M.2.1 pc = .ok (.lstore 4, 2)) (hn : pc + 2 = n) (hL : 4 + 1 < M.2.2.1) (hc : ∀ w, x3 = some w → zcat w = 1) (k : zW G M B Q n (x0 :: x1 :: x2 :: x3 :: some (zL v) :: none :: r) stk st) : zW G M B Q pc (x0 :: x1 :: x2 :: x3 :: y :: y2 :: r) (zL v :: stk) st := by
  intro p l e s m args below meth c H locs ls F J P S hl
  have hx := F.1
  have hb := F.2.1
  subst hn
  refine lv_lstore hx hb hd hl.has hL rfl (fun ls' hl' => ?_)
  refine k p l e s m args below meth c H locs ls' F J P S (zls.put2 (v := zL v) hl' (fun j w hj => ?_))
  by_cases hjk : j = 4
  · subst hjk
    refine Or.inl ⟨rfl, ?_⟩
    have h9 : (some (zL v)) = some w := by simpa using hj
    exact (Option.some.inj h9).symm
  · by_cases hj2 : j = 4 + 1
    · subst hj2
      have h9 : (none : Option zV) = some w := by simpa using hj
      cases h9
    · refine Or.inr ⟨hjk, hj2, ?_, (fun e => hc w (by have e2 : j = 3 := (by omega); subst e2; simpa using hj))⟩
      rw [← hj]
      exact z_lset2 4 rfl j hjk hj2

theorem z_iinc_4 {x0 x1 x2 x3 : Option zV} {r : List (Option zV)} {v i : Int} (hd : decode M.2.1 pc = .ok (.iinc 4 i, 3)) (hn : pc + 3 = n) (hL : 4 < M.2.2.1) (hc : ∀ w, x3 = some w → zcat w = 1) (k : zW G M B Q n (x0 :: x1 :: x2 :: x3 :: some (zI (v + i)) :: r) stk st) : zW G M B Q pc (x0 :: x1 :: x2 :: x3 :: some (zI v) :: r) stk st := by
  intro p l e s m args below meth c H locs ls F J P S hl
  have hx := F.1
  have hb := F.2.1
  subst hn
  obtain ⟨q, hq⟩ := List.getElem?_of_mem ((zas_mem (G := G) _ 0 (4, zc G (zI v))).mpr ⟨4, zI v, (rfl : (x0 :: x1 :: x2 :: x3 :: some (zI v) :: r)[4]? = some (some (zI v))), by simp⟩)
  refine lv_iinc (k := q) (v := Int32.ofInt (v + i)) hx hb hd hl.has hq (za_add v i) hL rfl (fun ls' hl' => ?_)
  refine k p l e s m args below meth c H locs ls' F J P S (zls.put1 (v := zI (v + i)) hl' (fun j w hj => ?_))
  by_cases hjk : j = 4
  · subst hjk
    refine Or.inl ⟨rfl, ?_⟩
    have h9 : (some (zI (v + i))) = some w := by simpa using hj
    exact (Option.some.inj h9).symm
  · refine Or.inr ⟨hjk, ?_, (fun e => hc w (by have e2 : j = 3 := (by omega); subst e2; simpa using hj))⟩
    rw [← hj]
    exact z_lset 4 rfl j hjk

theorem z_iload_5 {x0 x1 x2 x3 x4 : Option zV} {r : List (Option zV)} {v : Int} (hd : decode M.2.1 pc = .ok (.iload 5, 2)) (hn : pc + 2 = n) (k : zW G M B Q n (x0 :: x1 :: x2 :: x3 :: x4 :: some (zI v) :: r) (zI v :: stk) st) : zW G M B Q pc (x0 :: x1 :: x2 :: x3 :: x4 :: some (zI v) :: r) stk st := by
  intro p l e s m args below meth c H locs ls F J P S hl
  have hx := F.1
  have hb := F.2.1
  subst hn
  have k := k p l e s m args below meth c H locs ls F J P S hl
  refine lv_iload hx hb hd (hl.2.2 5 (zI v) rfl) ?_
  exact k

theorem z_istore_5 {x0 x1 x2 x3 x4 : Option zV} {y : Option zV} {r : List (Option zV)} {v : Int} (hd : decode M.2.1 pc = .ok (.istore 5, 2)) (hn : pc + 2 = n) (hL : 5 < M.2.2.1) (hc : ∀ w, x4 = some w → zcat w = 1) (k : zW G M B Q n (x0 :: x1 :: x2 :: x3 :: x4 :: some (zI v) :: r) stk st) : zW G M B Q pc (x0 :: x1 :: x2 :: x3 :: x4 :: y :: r) (zI v :: stk) st := by
  intro p l e s m args below meth c H locs ls F J P S hl
  have hx := F.1
  have hb := F.2.1
  subst hn
  refine lv_istore hx hb hd hl.has hL rfl (fun ls' hl' => ?_)
  refine k p l e s m args below meth c H locs ls' F J P S (zls.put1 (v := zI v) hl' (fun j w hj => ?_))
  by_cases hjk : j = 5
  · subst hjk
    refine Or.inl ⟨rfl, ?_⟩
    have h9 : (some (zI v)) = some w := by simpa using hj
    exact (Option.some.inj h9).symm
  · refine Or.inr ⟨hjk, ?_, (fun e => hc w (by have e2 : j = 4 := (by omega); subst e2; simpa using hj))⟩
    rw [← hj]
    exact z_lset 5 rfl j hjk

theorem z_aload_5 {x0 x1 x2 x3 x4 : Option zV} {r : List (Option zV)} {v : Nat} (hd : decode M.2.1 pc = .ok (.aload 5, 2)) (hn : pc + 2 = n) (k : zW G M B Q n (x0 :: x1 :: x2 :: x3 :: x4 :: some (zR v) :: r) (zR v :: stk) st) : zW G M B Q pc (x0 :: x1 :: x2 :: x3 :: x4 :: some (zR v) :: r) stk st := by
  intro p l e s m args below meth c H locs ls F J P S hl
  have hx := F.1
  have hb := F.2.1
  subst hn
  have k := k p l e s m args below meth c H locs ls F J P S hl
  refine lv_aload hx hb hd (hl.2.2 5 (zR v) rfl) ?_
  exact k

theorem z_astore_5 {x0 x1 x2 x3 x4 : Option zV} {y : Option zV} {r : List (Option zV)} {v : Nat} (hd : decode M.2.1 pc = .ok (.astore 5, 2)) (hn : pc + 2 = n) (hL : 5 < M.2.2.1) (hc : ∀ w, x4 = some w → zcat w = 1) (k : zW G M B Q n (x0 :: x1 :: x2 :: x3 :: x4 :: some (zR v) :: r) stk st) : zW G M B Q pc (x0 :: x1 :: x2 :: x3 :: x4 :: y :: r) (zR v :: stk) st := by
  intro p l e s m args below meth c H locs ls F J P S hl
  have hx := F.1
  have hb := F.2.1
  subst hn
  refine lv_astore hx hb hd hl.has hL rfl (fun ls' hl' => ?_)
  refine k p l e s m args below meth c H locs ls' F J P S (zls.put1 (v := zR v) hl' (fun j w hj => ?_))
  by_cases hjk : j = 5
  · subst hjk
    refine Or.inl ⟨rfl, ?_⟩
    have h9 : (some (zR v)) = some w := by simpa using hj
    exact (Option.some.inj h9).symm
  · refine Or.inr ⟨hjk, ?_, (fun e => hc w (by have e2 : j = 4 := (by omega); subst e2; simpa using hj))⟩
    rw [← hj]
    exact z_lset 5 rfl j hjk

theorem z_lload_5 {x0 x1 x2 x3 x4 : Option zV} {r : List (Option zV)} {v : Int} (hd : decode M.2.1 pc = .ok (.lload 5, 2)) (hn : pc + 2 = n) (k : zW G M B Q n (x0 :: x1 :: x2 :: x3 :: x4 :: some (zL v) :: r) (zL v :: stk) st) : zW G M B Q pc (x0 :: x1 :: x2 :: x3 :: x4 :: some (zL v) :: r) stk st := by
  intro p l e s m args below meth c H locs ls F J P S hl
  have hx := F.1
  have hb := F.2.1
  subst hn
  have k := k p l e s m args below meth c H locs ls F J P S hl
  refine lv_lload hx hb hd (hl.2.2 5 (zL v) rfl) ?_
  exact k

theorem z_lstore_5 {x0 x1 x2 x3 x4 : Option zV} {y y2 : Option zV} {r : List (Option zV)} {v : Int} (hd : decode M.2.1 pc = .ok (.lstore 5, 2)) (hn : pc + 2 = n) (hL : 5 + 1 < M.2.2.1) (hc : ∀ w, x4 = some w → zcat w = 1) (k : zW G M B Q n (x0 :: x1 :: x2 :: x3 :: x4 :: some (zL v) :: none :: r) stk st) : zW G M B Q pc (x0 :: x1 :: x2 :: x3 :: x4 :: y :: y2 :: r) (zL v :: stk) st := by
  intro p l e s m args below meth c H locs ls F J P S hl
  have hx := F.1
  have hb := F.2.1
  subst hn
  refine lv_lstore hx hb hd hl.has hL rfl (fun ls' hl' => ?_)
  refine k p l e s m args below meth c H locs ls' F J P S (zls.put2 (v := zL v) hl' (fun j w hj => ?_))
  by_cases hjk : j = 5
  · subst hjk
    refine Or.inl ⟨rfl, ?_⟩
    have h9 : (some (zL v)) = some w := by simpa using hj
    exact (Option.some.inj h9).symm
  · by_cases hj2 : j = 5 + 1
    · subst hj2
      have h9 : (none : Option zV) = some w := by simpa using hj
      cases h9
    · refine Or.inr ⟨hjk, hj2, ?_, (fun e => hc w (by have e2 : j = 4 := (by omega); subst e2; simpa using hj))⟩
      rw [← hj]
      exact z_lset2 5 rfl j hjk hj2

theorem z_iinc_5 {x0 x1 x2 x3 x4 : Option zV} {r : List (Option zV)} {v i : Int} (hd : decode M.2.1 pc = .ok (.iinc 5 i, 3)) (hn : pc + 3 = n) (hL : 5 < M.2.2.1) (hc : ∀ w, x4 = some w → zcat w = 1) (k : zW G M B Q n (x0 :: x1 :: x2 :: x3 :: x4 :: some (zI (v + i)) :: r) stk st) : zW G M B Q pc (x0 :: x1 :: x2 :: x3 :: x4 :: some (zI v) :: r) stk st := by
  intro p l e s m args below meth c H locs ls F J P S hl
  have hx := F.1
  have hb := F.2.1
  subst hn
  obtain ⟨q, hq⟩ := List.getElem?_of_mem ((zas_mem (G := G) _ 0 (5, zc G (zI v))).mpr ⟨5, zI v, (rfl : (x0 :: x1 :: x2 :: x3 :: x4 :: some (zI v) :: r)[5]? = some (some (zI v))), by simp⟩)
  refine lv_iinc (k := q) (v := Int32.ofInt (v + i)) hx hb hd hl.has hq (za_add v i) hL rfl (fun ls' hl' => ?_)
  refine k p l e s m args below meth c H locs ls' F J P S (zls.put1 (v := zI (v + i)) hl' (fun j w hj => ?_))
  by_cases hjk : j = 5
  · subst hjk
    refine Or.inl ⟨rfl, ?_⟩
    have h9 : (some (zI (v + i))) = some w := by simpa using hj
    exact (Option.some.inj h9).symm
  · refine Or.inr ⟨hjk, ?_, (fun e => hc w (by have e2 : j = 4 := (by omega); subst e2; simpa using hj))⟩
    rw [← hj]
    exact z_lset 5 rfl j hjk

theorem z_iload_6 {x0 x1 x2 x3 x4 x5 : Option zV} {r : List (Option zV)} {v : Int} (hd : decode M.2.1 pc = .ok (.iload 6, 2)) (hn : pc + 2 = n) (k : zW G M B Q n (x0 :: x1 :: x2 :: x3 :: x4 :: x5 :: some (zI v) :: r) (zI v :: stk) st) : zW G M B Q pc (x0 :: x1 :: x2 :: x3 :: x4 :: x5 :: some (zI v) :: r) stk st := by
  intro p l e s m args below meth c H locs ls F J P S hl
  have hx := F.1
  have hb := F.2.1
  subst hn
  have k := k p l e s m args below meth c H locs ls F J P S hl
  refine lv_iload hx hb hd (hl.2.2 6 (zI v) rfl) ?_
  exact k

theorem z_istore_6 {x0 x1 x2 x3 x4 x5 : Option zV} {y : Option zV} {r : List (Option zV)} {v : Int} (hd : decode M.2.1 pc = .ok (.istore 6, 2)) (hn : pc + 2 = n) (hL : 6 < M.2.2.1) (hc : ∀ w, x5 = some w → zcat w = 1) (k : zW G M B Q n (x0 :: x1 :: x2 :: x3 :: x4 :: x5 :: some (zI v) :: r) stk st) : zW G M B Q pc (x0 :: x1 :: x2 :: x3 :: x4 :: x5 :: y :: r) (zI v :: stk) st := by
  intro p l e s m args below meth c H locs ls F J P S hl
  have hx := F.1
  have hb := F.2.1
  subst hn
  refine lv_istore hx hb hd hl.has hL rfl (fun ls' hl' => ?_)
  refine k p l e s m args below meth c H locs ls' F J P S (zls.put1 (v := zI v) hl' (fun j w hj => ?_))
  by_cases hjk : j = 6
  · subst hjk
    refine Or.inl ⟨rfl, ?_⟩
    have h9 : (some (zI v)) = some w := by simpa using hj
    exact (Option.some.inj h9).symm
  · refine Or.inr ⟨hjk, ?_, (fun e => hc w (by have e2 : j = 5 := (by omega); subst e2; simpa using hj))⟩
    rw [← hj]
    exact z_lset 6 rfl j hjk

theorem z_aload_6 {x0 x1 x2 x3 x4 x5 : Option zV} {r : List (Option zV)} {v : Nat} (hd : decode M.2.1 pc = .ok (.aload 6, 2)) (hn : pc + 2 = n) (k : zW G M B Q n (x0 :: x1 :: x2 :: x3 :: x4 :: x5 :: some (zR v) :: r) (zR v :: stk) st) : zW G M B Q pc (x0 :: x1 :: x2 :: x3 :: x4 :: x5 :: some (zR v) :: r) stk st := by
  intro p l e s m args below meth c H locs ls F J P S hl
  have hx := F.1
  have hb := F.2.1
  subst hn
  have k := k p l e s m args below meth c H locs ls F J P S hl
  refine lv_aload hx hb hd (hl.2.2 6 (zR v) rfl) ?_
  exact k

theorem z_astore_6 {x0 x1 x2 x3 x4 x5 : Option zV} {y : Option zV} {r : List (Option zV)} {v : Nat} (hd : decode M.2.1 pc = .ok (.astore 6, 2)) (hn : pc + 2 = n) (hL : 6 < M.2.2.1) (hc : ∀ w, x5 = some w → zcat w = 1) (k : zW G M B Q n (x0 :: x1 :: x2 :: x3 :: x4 :: x5 :: some (zR v) :: r) stk st) : zW G M B Q pc (x0 :: x1 :: x2 :: x3 :: x4 :: x5 :: y :: r) (zR v :: stk) st := by
  intro p l e s m args below meth c H locs ls F J P S hl
  have hx := F.1
  have hb := F.2.1
  subst hn
  refine lv_astore hx hb hd hl.has hL rfl (fun ls' hl' => ?_)
  refine k p l e s m args below meth c H locs ls' F J P S (zls.put1 (v := zR v) hl' (fun j w hj => ?_))
  by_cases hjk : j = 6
  · subst hjk
    refine Or.inl ⟨rfl, ?_⟩
    have h9 : (some (zR v)) = some w := by simpa using hj
    exact (Option.some.inj h9).symm
  · refine Or.inr ⟨hjk, ?_, (fun e => hc w (by have e2 : j = 5 := (by omega); subst e2; simpa using hj))⟩
    rw [← hj]
    exact z_lset 6 rfl j hjk

theorem z_lload_6 {x0 x1 x2 x3 x4 x5 : Option zV} {r : List (Option zV)} {v : Int} (hd : decode M.2.1 pc = .ok (.lload 6, 2)) (hn : pc + 2 = n) (k : zW G M B Q n (x0 :: x1 :: x2 :: x3 :: x4 :: x5 :: some (zL v) :: r) (zL v :: stk) st) : zW G M B Q pc (x0 :: x1 :: x2 :: x3 :: x4 :: x5 :: some (zL v) :: r) stk st := by
  intro p l e s m args below meth c H locs ls F J P S hl
  have hx := F.1
  have hb := F.2.1
  subst hn
  have k := k p l e s m args below meth c H locs ls F J P S hl
  refine lv_lload hx hb hd (hl.2.2 6 (zL v) rfl) ?_
  exact k

theorem z_lstore_6 {x0 x1 x2 x3 x4 x5 : Option zV} {y y2 : Option zV} {r : List (Option zV)} {v : Int} (hd : decode M.2.1 pc = .ok (.lstore 6, 2)) (hn : pc + 2 = n) (hL : 6 + 1 < M.2.2.1) (hc : ∀ w, x5 = some w → zcat w = 1) (k : zW G M B Q n (x0 :: x1 :: x2 :: x3 :: x4 :: x5 :: some (zL v) :: none :: r) stk st) : zW G M B Q pc (x0 :: x1 :: x2 :: x3 :: x4 :: x5 :: y :: y2 :: r) (zL v :: stk) st := by
  intro p l e s m args below meth c H locs ls F J P S hl
  have hx := F.1
  have hb := F.2.1
  subst hn
  refine lv_lstore hx hb hd hl.has hL rfl (fun ls' hl' => ?_)
  refine k p l e s m args below meth c H locs ls' F J P S (zls.put2 (v := zL v) hl' (fun j w hj => ?_))
  by_cases hjk : j = 6
  · subst hjk
    refine Or.inl ⟨rfl, ?_⟩
    have h9 : (some (zL v)) = some w := by simpa using hj
    exact (Option.some.inj h9).symm
  · by_cases hj2 : j = 6 + 1
    · subst hj2
      have h9 : (none : Option zV) = some w := by simpa using hj
      cases h9
    · refine Or.inr ⟨hjk, hj2, ?_, (fun e => hc w (by have e2 : j = 5 := (by omega); subst e2; simpa using hj))⟩
      rw [← hj]
      exact z_lset2 6 rfl j hjk hj2

theorem z_iinc_6 {x0 x1 x2 x3 x4 x5 : Option zV} {r : List (Option zV)} {v i : Int} (hd : decode M.2.1 pc = .ok (.iinc 6 i, 3)) (hn : pc + 3 = n) (hL : 6 < M.2.2.1) (hc : ∀ w, x5 = some w → zcat w = 1) (k : zW G M B Q n (x0 :: x1 :: x2 :: x3 :: x4 :: x5 :: some (zI (v + i)) :: r) stk st) : zW G M B Q pc (x0 :: x1 :: x2 :: x3 :: x4 :: x5 :: some (zI v) :: r) stk st := by
  intro p l e s m args below meth c H locs ls F J P S hl
  have hx := F.1
  have hb := F.2.1
  subst hn
  obtain ⟨q, hq⟩ := List.getElem?_of_mem ((zas_mem (G := G) _ 0 (6, zc G (zI v))).mpr ⟨6, zI v, (rfl : (x0 :: x1 :: x2 :: x3 :: x4 :: x5 :: some (zI v) :: r)[6]? = some (some (zI v))), by simp⟩)
  refine lv_iinc (k := q) (v := Int32.ofInt (v + i)) hx hb hd hl.has hq (za_add v i) hL rfl (fun ls' hl' => ?_)
  refine k p l e s m args below meth c H locs ls' F J P S (zls.put1 (v := zI (v + i)) hl' (fun j w hj => ?_))
  by_cases hjk : j = 6
  · subst hjk
    refine Or.inl ⟨rfl, ?_⟩
    have h9 : (some (zI (v + i))) = some w := by simpa using hj
    exact (Option.some.inj h9).symm
  · refine Or.inr ⟨hjk, ?_, (fun e => hc w (by have e2 : j = 5 := (by omega); subst e2; simpa using hj))⟩
    rw [← hj]
    exact z_lset 6 rfl j hjk

theorem z_iload_7 {x0 x1 x2 x3 x4 x5 x6 : Option zV} {r : List (Option zV)} {v : Int} (hd : decode M.2.1 pc = .ok (.iload 7, 2)) (hn : pc + 2 = n) (k : zW G M B Q n (x0 :: x1 :: x2 :: x3 :: x4 :: x5 :: x6 :: some (zI v) :: r) (zI v :: stk) st) : zW G M B Q pc (x0 :: x1 :: x2 :: x3 :: x4 :: x5 :: x6 :: some (zI v) :: r) stk st := by
  intro p l e s m args below meth c H locs ls F J P S hl
  have hx := F.1
  have hb := F.2.1
  subst hn
  have k := k p l e s m args below meth c H locs ls F J P S hl
  refine lv_iload hx hb hd (hl.2.2 7 (zI v) rfl) ?_
  exact k

theorem z_istore_7 {x0 x1 x2 x3 x4 x5 x6 : Option zV} {y : Option zV} {r : List (Option zV)} {v : Int} (hd : decode M.2.1 pc = .ok (.istore 7, 2)) (hn : pc + 2 = n) (hL : 7 < M.2.2.1) (hc : ∀ w, x6 = some w → zcat w = 1) (k : zW G M B Q n (x0 :: x1 :: x2 :: x3 :: x4 :: x5 :: x6 :: some (zI v) :: r) stk st) : zW G M B Q pc (x0 :: x1 :: x2 :: x3 :: x4 :: x5 :: x6 :: y :: r) (zI v :: stk) st := by
  intro p l e s m args below meth c H locs ls F J P S hl
  have hx := F.1
  have hb := F.2.1
  subst hn
  refine lv_istore hx hb hd hl.has hL rfl (fun ls' hl' => ?_)
  refine k p l e s m args below meth c H locs ls' F J P S (zls.put1 (v := zI v) hl' (fun j w hj => ?_))
  by_cases hjk : j = 7
  · subst hjk
    refine Or.inl ⟨rfl, ?_⟩
    have h9 : (some (zI v)) = some w := by simpa using hj
    exact (Option.some.inj h9).symm
  · refine Or.inr ⟨hjk, ?_, (fun e => hc w (by have e2 : j = 6 := (by omega); subst e2; simpa using hj))⟩
    rw [← hj]
    exact z_lset 7 rfl j hjk

theorem z_aload_7 {x0 x1 x2 x3 x4 x5 x6 : Option zV} {r : List (Option zV)} {v : Nat} (hd : decode M.2.1 pc = .ok (.aload 7, 2)) (hn : pc + 2 = n) (k : zW G M B Q n (x0 :: x1 :: x2 :: x3 :: x4 :: x5 :: x6 :: some (zR v) :: r) (zR v :: stk) st) : zW G M B Q pc (x0 :: x1 :: x2 :: x3 :: x4 :: x5 :: x6 :: some (zR v) :: r) stk st := by
  intro p l e s m args below meth c H locs ls F J P S hl
  have hx := F.1
  have hb := F.2.1
  subst hn
  have k := k p l e s m args below meth c H locs ls F J P S hl
  refine lv_aload hx hb hd (hl.2.2 7 (zR v) rfl) ?_
  exact k

theorem z_astore_7 {x0 x1 x2 x3 x4 x5 x6 : Option zV} {y : Option zV} {r : List (Option zV)} {v : Nat} (hd : decode M.2.1 pc = .ok (.astore 7, 2)) (hn : pc + 2 = n) (hL : 7 < M.2.2.1) (hc : ∀ w, x6 = some w → zcat w = 1) (k : zW G M B Q n (x0 :: x1 :: x2 :: x3 :: x4 :: x5 :: x6 :: some (zR v) :: r) stk st) : zW G M B Q pc (x0 :: x1 :: x2 :: x3 :: x4 :: x5 :: x6 :: y :: r) (zR v :: stk) st := by
  intro p l e s m args below meth c H locs ls F J P S hl
  have hx := F.1
  have hb := F.2.1
  subst hn
  refine lv_astore hx hb hd hl.has hL rfl (fun ls' hl' => ?_)
  refine k p l e s m args below meth c H locs ls' F J P S (zls.put1 (v := zR v) hl' (fun j w hj => ?_))
  by_cases hjk : j = 7
  · subst hjk
    refine Or.inl ⟨rfl, ?_⟩
    have h9 : (some (zR v)) = some w := by simpa using hj
    exact (Option.some.inj h9).symm
  · refine Or.inr ⟨hjk, ?_, (fun e => hc w (by have e2 : j = 6 := (by omega); subst e2; simpa using hj))⟩
    rw [← hj]
    exact z_lset 7 rfl j hjk

theorem z_lload_7 {x0 x1 x2 x3 x4 x5 x6 : Option zV} {r : List (Option zV)} {v : Int} (hd : decode M.2.1 pc = .ok (.lload 7, 2)) (hn : pc + 2 = n) (k : zW G M B Q n (x0 :: x1 :: x2 :: x3 :: x4 :: x5 :: x6 :: some (zL v) :: r) (zL v :: stk) st) : zW G M B Q pc (x0 :: x1 :: x2 :: x3 :: x4 :: x5 :: x6 :: some (zL v) :: r) stk st := by
  intro p l e s m args below meth c H locs ls F J P S hl
  have hx := F.1
  have hb := F.2.1
  subst hn
  have k := k p l e s m args below meth c H locs ls F J P S hl
  refine lv_lload hx hb hd (hl.2.2 7 (zL v) rfl) ?_
  exact k

theorem z_lstore_7 {x0 x1 x2 x3 x4 x5 x6 : Option zV} {y y2 : Option zV} {r : List (Option zV)} {v : Int} (hd : decode M.2.1 pc = .ok (.lstore 7, 2)) (hn : pc + 2 = n) (hL : 7 + 1 < M.2.2.1) (hc : ∀ w, x6 = some w → zcat w = 1) (k : zW G M B Q n (x0 :: x1 :: x2 :: x3 :: x4 :: x5 :: x6 :: some (zL v) :: none :: r) stk st) : zW G M B Q pc (x0 :: x1 :: x2 :: x3 :: x4 :: x5 :: x6 :: y :: y2 :: r) (zL v :: stk) st := by
  intro p l e s m args below meth c H locs ls F J P S hl
  have hx := F.1
  have hb := F.2.1
  subst hn
  refine lv_lstore hx hb hd hl.has hL rfl (fun ls' hl' => ?_)
  refine k p l e s m args below meth c H locs ls' F J P S (zls.put2 (v := zL v) hl' (fun j w hj => ?_))
  by_cases hjk : j = 7
  · subst hjk
    refine Or.inl ⟨rfl, ?_⟩
    have h9 : (some (zL v)) = some w := by simpa using hj
    exact (Option.some.inj h9).symm
  · by_cases hj2 : j = 7 + 1
    · subst hj2
      have h9 : (none : Option zV) = some w := by simpa using hj
      cases h9
    · refine Or.inr ⟨hjk, hj2, ?_, (fun e => hc w (by have e2 : j = 6 := (by omega); subst e2; simpa using hj))⟩
      rw [← hj]
      exact z_lset2 7 rfl j hjk hj2

theorem z_iinc_7 {x0 x1 x2 x3 x4 x5 x6 : Option zV} {r : List (Option zV)} {v i : Int} (hd : decode M.2.1 pc = .ok (.iinc 7 i, 3)) (hn : pc + 3 = n) (hL : 7 < M.2.2.1) (hc : ∀ w, x6 = some w → zcat w = 1) (k : zW G M B Q n (x0 :: x1 :: x2 :: x3 :: x4 :: x5 :: x6 :: some (zI (v + i)) :: r) stk st) : zW G M B Q pc (x0 :: x1 :: x2 :: x3 :: x4 :: x5 :: x6 :: some (zI v) :: r) stk st := by
  intro p l e s m args below meth c H locs ls F J P S hl
  have hx := F.1
  have hb := F.2.1
  subst hn
  obtain ⟨q, hq⟩ := List.getElem?_of_mem ((zas_mem (G := G) _ 0 (7, zc G (zI v))).mpr ⟨7, zI v, (rfl : (x0 :: x1 :: x2 :: x3 :: x4 :: x5 :: x6 :: some (zI v) :: r)[7]? = some (some (zI v))), by simp⟩)
  refine lv_iinc (k := q) (v := Int32.ofInt (v + i)) hx hb hd hl.has hq (za_add v i) hL rfl (fun ls' hl' => ?_)
  refine k p l e s m args below meth c H locs ls' F J P S (zls.put1 (v := zI (v + i)) hl' (fun j w hj => ?_))
  by_cases hjk : j = 7
  · subst hjk
    refine Or.inl ⟨rfl, ?_⟩
    have h9 : (some (zI (v + i))) = some w := by simpa using hj
    exact (Option.some.inj h9).symm
  · refine Or.inr ⟨hjk, ?_, (fun e => hc w (by have e2 : j = 6 := (by omega); subst e2; simpa using hj))⟩
    rw [← hj]
    exact z_lset 7 rfl j hjk

theorem z_iload_8 {x0 x1 x2 x3 x4 x5 x6 x7 : Option zV} {r : List (Option zV)} {v : Int} (hd : decode M.2.1 pc = .ok (.iload 8, 2)) (hn : pc + 2 = n) (k : zW G M B Q n (x0 :: x1 :: x2 :: x3 :: x4 :: x5 :: x6 :: x7 :: some (zI v) :: r) (zI v :: stk) st) : zW G M B Q pc (x0 :: x1 :: x2 :: x3 :: x4 :: x5 :: x6 :: x7 :: some (zI v) :: r) stk st := by
  intro p l e s m args below meth c H locs ls F J P S hl
  have hx := F.1
  have hb := F.2.1
  subst hn
  have k := k p l e s m args below meth c H locs ls F J P S hl
  refine lv_iload hx hb hd (hl.2.2 8 (zI v) rfl) ?_
  exact k

theorem z_istore_8 {x0 x1 x2 x3 x4 x5 x6 x7 : Option zV} {y : Option zV} {r : List (Option zV)} {v : Int} (hd : decode M.2.1 pc = .ok (.istore 8, 2)) (hn : pc + 2 = n) (hL : 8 < M.2.2.1) (hc : ∀ w, x7 = some w → zcat w = 1) (k : zW G M B Q n (x0 :: x1 :: x2 :: x3 :: x4 :: x5 :: x6 :: x7 :: some (zI v) :: r) stk st) : zW G M B Q pc (x0 :: x1 :: x2 :: x3 :: x4 :: x5 :: x6 :: x7 :: y :: r) (zI v :: stk) st := by
  intro p l e s m args below meth c H locs ls F J P S hl
  have hx := F.1
  have hb := F.2.1
  subst hn
  refine lv_istore hx hb hd hl.has hL rfl (fun ls' hl' => ?_)
  refine k p l e s m args below meth c H locs ls' F J P S (zls.put1 (v := zI v) hl' (fun j w hj => ?_))
  by_cases hjk : j = 8
  · subst hjk
    refine Or.inl ⟨rfl, ?_⟩
    have h9 : (some (zI v)) = some w := by simpa using hj
    exact (Option.some.inj h9).symm
  · refine Or.inr ⟨hjk, ?_, (fun e => hc w (by have e2 : j = 7 := (by omega); subst e2; simpa using hj))⟩
    rw [← hj]
    exact z_lset 8 rfl j hjk

theorem z_aload_8 {x0 x1 x2 x3 x4 x5 x6 x7 : Option zV} {r : List (Option zV)} {v : Nat} (hd : decode M.2.1 pc = .ok (.aload 8, 2)) (hn : pc + 2 = n) (k : zW G M B Q n (x0 :: x1 :: x2 :: x3 :: x4 :: x5 :: x6 :: x7 :: some (zR v) :: r) (zR v :: stk) st) : zW G M B Q pc (x0 :: x1 :: x2 :: x3 :: x4 :: x5 :: x6 :: x7 :: some (zR v) :: r) stk st := by
  intro p l e s m args below meth c H locs ls F J P S hl
  have hx := F.1
  have hb := F.2.1
  subst hn
  have k := k p l e s m args below meth c H locs ls F J P S hl
  refine lv_aload hx hb hd (hl.2.2 8 (zR v) rfl) ?_
  exact k

theorem z_astore_8 {x0 x1 x2 x3 x4 x5 x6 x7 : Option zV} {y : Option zV} {r : List (Option zV)} {v : Nat} (hd : decode M.2.1 pc = .ok (.astore 8, 2)) (hn : pc + 2 = n) (hL : 8 < M.2.2.1) (hc : ∀ w, x7 = some w → zcat w = 1) (k : zW G M B Q n (x0 :: x1 :: x2 :: x3 :: x4 :: x5 :: x6 :: x7 :: some (zR v) :: r) stk st) : zW G M B Q pc (x0 :: x1 :: x2 :: x3 :: x4 :: x5 :: x6 :: x7 :: y :: r) (zR v :: stk) st := by
  intro p l e s m args below meth c H locs ls F J P S hl
  have hx := F.1
  have hb := F.2.1
  subst hn
  refine lv_astore hx hb hd hl.has hL rfl (fun ls' hl' => ?_)
  refine k p l e s m args below meth c H locs ls' F J P S (zls.put1 (v := zR v) hl' (fun j w hj => ?_))
  by_cases hjk : j = 8
  · subst hjk
    refine Or.inl ⟨rfl, ?_⟩
    have h9 : (some (zR v)) = some w := by simpa using hj
    exact (Option.some.inj h9).symm
  · refine Or.inr ⟨hjk, ?_, (fun e => hc w (by have e2 : j = 7 := (by omega); subst e2; simpa using hj))⟩
    rw [← hj]
    exact z_lset 8 rfl j hjk

theorem z_lload_8 {x0 x1 x2 x3 x4 x5 x6 x7 : Option zV} {r : List (Option zV)} {v : Int} (hd : decode M.2.1 pc = .ok (.lload 8, 2)) (hn : pc + 2 = n) (k : zW G M B Q n (x0 :: x1 :: x2 :: x3 :: x4 :: x5 :: x6 :: x7 :: some (zL v) :: r) (zL v :: stk) st) : zW G M B Q pc (x0 :: x1 :: x2 :: x3 :: x4 :: x5 :: x6 :: x7 :: some (zL v) :: r) stk st := by
  intro p l e s m args below meth c H locs ls F J P S hl
  have hx := F.1
  have hb := F.2.1
  subst hn
  have k := k p l e s m args below meth c H locs ls F J P S hl
  refine lv_lload hx hb hd (hl.2.2 8 (zL v) rfl) ?_
  exact k

theorem z_lstore_8 {x0 x1 x2 x3 x4 x5 x6 x7 : Option zV} {y y2 : Option zV} {r : List (Option zV)} {v : Int} (hd : decode M.2.1 pc = .ok (.lstore 8, 2)) (hn : pc + 2 = n) (hL : 8 + 1 < M.2.2.1) (hc : ∀ w, x7 = some w → zcat w = 1) (k : zW G M B Q n (x0 :: x1 :: x2 :: x3 :: x4 :: x5 :: x6 :: x7 :: some (zL v) :: none :: r) stk st) : zW G M B Q pc (x0 :: x1 :: x2 :: x3 :: x4 :: x5 :: x6 :: x7 :: y :: y2 :: r) (zL v :: stk) st := by
  intro p l e s m args below meth c H locs ls F J P S hl
  have hx := F.1
  have hb := F.2.1
  subst hn
  refine lv_lstore hx hb hd hl.has hL rfl (fun ls' hl' => ?_)
  refine k p l e s m args below meth c H locs ls' F J P S (zls.put2 (v := zL v) hl' (fun j w hj => ?_))
  by_cases hjk : j = 8
  · subst hjk
    refine Or.inl ⟨rfl, ?_⟩
    have h9 : (some (zL v)) = some w := by simpa using hj
    exact (Option.some.inj h9).symm
  · by_cases hj2 : j = 8 + 1
    · subst hj2
      have h9 : (none : Option zV) = some w := by simpa using hj
      cases h9
    · refine Or.inr ⟨hjk, hj2, ?_, (fun e => hc w (by have e2 : j = 7 := (by omega); subst e2; simpa using hj))⟩
      rw [← hj]
      exact z_lset2 8 rfl j hjk hj2

theorem z_iinc_8 {x0 x1 x2 x3 x4 x5 x6 x7 : Option zV} {r : List (Option zV)} {v i : Int} (hd : decode M.2.1 pc = .ok (.iinc 8 i, 3)) (hn : pc + 3 = n) (hL : 8 < M.2.2.1) (hc : ∀ w, x7 = some w → zcat w = 1) (k : zW G M B Q n (x0 :: x1 :: x2 :: x3 :: x4 :: x5 :: x6 :: x7 :: some (zI (v + i)) :: r) stk st) : zW G M B Q pc (x0 :: x1 :: x2 :: x3 :: x4 :: x5 :: x6 :: x7 :: some (zI v) :: r) stk st := by
  intro p l e s m args below meth c H locs ls F J P S hl
  have hx := F.1
  have hb := F.2.1
  subst hn
  obtain ⟨q, hq⟩ := List.getElem?_of_mem ((zas_mem (G := G) _ 0 (8, zc G (zI v))).mpr ⟨8, zI v, (rfl : (x0 :: x1 :: x2 :: x3 :: x4 :: x5 :: x6 :: x7 :: some (zI v) :: r)[8]? = some (some (zI v))), by simp⟩)
  refine lv_iinc (k := q) (v := Int32.ofInt (v + i)) hx hb hd hl.has hq (za_add v i) hL rfl (fun ls' hl' => ?_)
  refine k p l e s m args below meth c H locs ls' F J P S (zls.put1 (v := zI (v + i)) hl' (fun j w hj => ?_))
  by_cases hjk : j = 8
  · subst hjk
    refine Or.inl ⟨rfl, ?_⟩
    have h9 : (some (zI (v + i))) = some w := by simpa using hj
    exact (Option.some.inj h9).symm
  · refine Or.inr ⟨hjk, ?_, (fun e => hc w (by have e2 : j = 7 := (by omega); subst e2; simpa using hj))⟩
    rw [← hj]
    exact z_lset 8 rfl j hjk

theorem z_iload_9 {x0 x1 x2 x3 x4 x5 x6 x7 x8 : Option zV} {r : List (Option zV)} {v : Int} (hd : decode M.2.1 pc = .ok (.iload 9, 2)) (hn : pc + 2 = n) (k : zW G M B Q n (x0 :: x1 :: x2 :: x3 :: x4 :: x5 :: x6 :: x7 :: x8 :: some (zI v) :: r) (zI v :: stk) st) : zW G M B Q pc (x0 :: x1 :: x2 :: x3 :: x4 :: x5 :: x6 :: x7 :: x8 :: some (zI v) :: r) stk st := by
  intro p l e s m args below meth c H locs ls F J P S hl
  have hx := F.1
  have hb := F.2.1
  subst hn
  have k := k p l e s m args below meth c H locs ls F J P S hl
  refine lv_iload hx hb hd (hl.2.2 9 (zI v) rfl) ?_
  exact k

theorem z_istore_9 {x0 x1 x2 x3 x4 x5 x6 x7 x8 : Option zV} {y : Option zV} {r : List (Option zV)} {v : Int} (hd : decode M.2.1 pc = .ok (.istore 9, 2)) (hn : pc + 2 = n) (hL : 9 < M.2.2.1) (hc : ∀ w, x8 = some w → zcat w = 1) (k : zW G M B Q n (x0 :: x1 :: x2 :: x3 :: x4 :: x5 :: x6 :: x7 :: x8 :: some (zI v) :: r) stk st) : zW G M B Q pc (x0 :: x1 :: x2 :: x3 :: x4 :: x5 :: x6 :: x7 :: x8 :: y :: r) (zI v :: stk) st := by
  intro p l e s m args below meth c H locs ls F J P S hl
  have hx := F.1
  have hb := F.2.1
  subst hn
  refine lv_istore hx hb hd hl.has hL rfl (fun ls' hl' => ?_)
  refine k p l e s m args below meth c H locs ls' F J P S (zls.put1 (v := zI v) hl' (fun j w hj => ?_))
  by_cases hjk : j = 9
  · subst hjk
    refine Or.inl ⟨rfl, ?_⟩
    have h9 : (some (zI v)) = some w := by simpa using hj
    exact (Option.some.inj h9).symm
  · refine Or.inr ⟨hjk, ?_, (fun e => hc w (by have e2 : j = 8 := (by omega); subst e2; simpa using hj))⟩
    rw [← hj]
    exact z_lset 9 rfl j hjk

theorem z_aload_9 {x0 x1 x2 x3 x4 x5 x6 x7 x8 : Option zV} {r : List (Option zV)} {v : Nat} (hd : decode M.2.1 pc = .ok (.aload 9, 2)) (hn : pc + 2 = n) (k : zW G M B Q n (x0 :: x1 :: x2 :: x3 :: x4 :: x5 :: x6 :: x7 :: x8 :: some (zR v) :: r) (zR v :: stk) st) : zW G M B Q pc (x0 :: x1 :: x2 :: x3 :: x4 :: x5 :: x6 :: x7 :: x8 :: some (zR v) :: r) stk st := by
  intro p l e s m args below meth c H locs ls F J P S hl
  have hx := F.1
  have hb := F.2.1
  subst hn
  have k := k p l e s m args below meth c H locs ls F J P S hl
  refine lv_aload hx hb hd (hl.2.2 9 (zR v) rfl) ?_
  exact k

theorem z_astore_9 {x0 x1 x2 x3 x4 x5 x6 x7 x8 : Option zV} {y : Option zV} {r : List (Option zV)} {v : Nat} (hd : decode M.2.1 pc = .ok (.astore 9, 2)) (hn : pc + 2 = n) (hL : 9 < M.2.2.1) (hc : ∀ w, x8 = some w → zcat w = 1) (k : zW G M B Q n (x0 :: x1 :: x2 :: x3 :: x4 :: x5 :: x6 :: x7 :: x8 :: some (zR v) :: r) stk st) : zW G M B Q pc (x0 :: x1 :: x2 :: x3 :: x4 :: x5 :: x6 :: x7 :: x8 :: y :: r) (zR v :: stk) st := by
  intro p l e s m args below meth c H locs ls F J P S hl
  have hx := F.1
  have hb := F.2.1
  subst hn
  refine lv_astore hx hb hd hl.has hL rfl (fun ls' hl' => ?_)
  refine k p l e s m args below meth c H locs ls' F J P S (zls.put1 (v := zR v) hl' (fun j w hj => ?_))
  by_cases hjk : j = 9
  · subst hjk
    refine Or.inl ⟨rfl, ?_⟩
    have h9 : (some (zR v)) = some w := by simpa using hj
    exact (Option.some.inj h9).symm
  · refine Or.inr ⟨hjk, ?_, (fun e => hc w (by have e2 : j = 8 := (by omega); subst e2; simpa using hj))⟩
    rw [← hj]
    exact z_lset 9 rfl j hjk

theorem z_lload_9 {x0 x1 x2 x3 x4 x5 x6 x7 x8 : Option zV} {r : List (Option zV)} {v : Int} (hd : decode M.2.1 pc = .ok (.lload 9, 2)) (hn : pc + 2 = n) (k : zW G M B Q n (x0 :: x1 :: x2 :: x3 :: x4 :: x5 :: x6 :: x7 :: x8 :: some (zL v) :: r) (zL v :: stk) st) : zW G M B Q pc (x0 :: x1 :: x2 :: x3 :: x4 :: x5 :: x6 :: x7 :: x8 :: some (zL v) :: r) stk st := by
  intro p l e s m args below meth c H locs ls F J P S hl
  have hx := F.1
  have hb := F.2.1
  subst hn
  have k := k p l e s m args below meth c H locs ls F J P S hl
  refine lv_lload hx hb hd (hl.2.2 9 (zL v) rfl) ?_
  exact k

theorem z_lstore_9 {x0 x1 x2 x3 x4 x5 x6 x7 x8 : Option zV} {y y2 : Option zV} {r : List (Option zV)} {v : Int} (hd : decode M.2.1 pc = .ok (.lstore 9, 2)) (hn : pc + 2 = n) (hL : 9 + 1 < M.2.2.1) (hc : ∀ w, x8 = some w → zcat w = 1) (k : zW G M B Q n (x0 :: x1 :: x2 :: x3 :: x4 :: x5 :: x6 :: x7 :: x8 :: some (zL v) :: none :: r) stk st) : zW G M B Q pc (x0 :: x1 :: x2 :: x3 :: x4 :: x5 :: x6 :: x7 :: x8 :: y :: y2 :: r) (zL v :: stk) st := by
  intro p l e s m args below meth c H locs ls F J P S hl
  have hx := F.1
  have hb := F.2.1
  subst hn
  refine lv_lstore hx hb hd hl.has hL rfl (fun ls' hl' => ?_)
  refine k p l e s m args below meth c H locs ls' F J P S (zls.put2 (v := zL v) hl' (fun j w hj => ?_))
  by_cases hjk : j = 9
  · subst hjk
    refine Or.inl ⟨rfl, ?_⟩
    have h9 : (some (zL v)) = some w := by simpa using hj
    exact (Option.some.inj h9).symm
  · by_cases hj2 : j = 9 + 1
    · subst hj2
      have h9 : (none : Option zV) = some w := by simpa using hj
      cases h9
    · refine Or.inr ⟨hjk, hj2, ?_, (fun e => hc w (by have e2 : j = 8 := (by omega); subst e2; simpa using hj))⟩
      rw [← hj]
      exact z_lset2 9 rfl j hjk hj2

theorem z_iinc_9 {x0 x1 x2 x3 x4 x5 x6 x7 x8 : Option zV} {r : List (Option zV)} {v i : Int} (hd : decode M.2.1 pc = .ok (.iinc 9 i, 3)) (hn : pc + 3 = n) (hL : 9 < M.2.2.1) (hc : ∀ w, x8 = some w → zcat w = 1) (k : zW G M B Q n (x0 :: x1 :: x2 :: x3 :: x4 :: x5 :: x6 :: x7 :: x8 :: some (zI (v + i)) :: r) stk st) : zW G M B Q pc (x0 :: x1 :: x2 :: x3 :: x4 :: x5 :: x6 :: x7 :: x8 :: some (zI v) :: r) stk st := by
  intro p l e s m args below meth c H locs ls F J P S hl
  have hx := F.1
  have hb := F.2.1
  subst hn
  obtain ⟨q, hq⟩ := List.getElem?_of_mem ((zas_mem (G := G) _ 0 (9, zc G (zI v))).mpr ⟨9, zI v, (rfl : (x0 :: x1 :: x2 :: x3 :: x4 :: x5 :: x6 :: x7 :: x8 :: some (zI v) :: r)[9]? = some (some (zI v))), by simp⟩)
  refine lv_iinc (k := q) (v := Int32.ofInt (v + i)) hx hb hd hl.has hq (za_add v i) hL rfl (fun ls' hl' => ?_)
  refine k p l e s m args below meth c H locs ls' F J P S (zls.put1 (v := zI (v + i)) hl' (fun j w hj => ?_))
  by_cases hjk : j = 9
  · subst hjk
    refine Or.inl ⟨rfl, ?_⟩
    have h9 : (some (zI (v + i))) = some w := by simpa using hj
    exact (Option.some.inj h9).symm
  · refine Or.inr ⟨hjk, ?_, (fun e => hc w (by have e2 : j = 8 := (by omega); subst e2; simpa using hj))⟩
    rw [← hj]
    exact z_lset 9 rfl j hjk

theorem z_iload_10 {x0 x1 x2 x3 x4 x5 x6 x7 x8 x9 : Option zV} {r : List (Option zV)} {v : Int} (hd : decode M.2.1 pc = .ok (.iload 10, 2)) (hn : pc + 2 = n) (k : zW G M B Q n (x0 :: x1 :: x2 :: x3 :: x4 :: x5 :: x6 :: x7 :: x8 :: x9 :: some (zI v) :: r) (zI v :: stk) st) : zW G M B Q pc (x0 :: x1 :: x2 :: x3 :: x4 :: x5 :: x6 :: x7 :: x8 :: x9 :: some (zI v) :: r) stk st := by
  intro p l e s m args below meth c H locs ls F J P S hl
  have hx := F.1
  have hb := F.2.1
  subst hn
  have k := k p l e s m args below meth c H locs ls F J P S hl
  refine lv_iload hx hb hd (hl.2.2 10 (zI v) rfl) ?_
  exact k

theorem z_istore_10 {x0 x1 x2 x3 x4 x5 x6 x7 x8 x9 : Option zV} {y : Option zV} {r : List (Option zV)} {v : Int} (hd : decode M.2.1 pc = .ok (.istore 10, 2)) (hn : pc + 2 = n) (hL : 10 < M.2.2.1) (hc : ∀ w, x9 = some w → zcat w = 1) (k : zW G M B Q n (x0 :: x1 :: x2 :: x3 :: x4 :: x5 :: x6 :: x7 :: x8 :: x9 :: some (zI v) :: r) stk st) : zW G M B Q pc (x0 :: x1 :: x2 :: x3 :: x4 :: x5 :: x6 :: x7 :: x8 :: x9 :: y :: r) (zI v :: stk) st := by
  intro p l e s m args below meth c H locs ls F J P S hl
  have hx := F.1
  have hb := F.2.1
  subst hn
  refine lv_istore hx hb hd hl.has hL rfl (fun ls' hl' => ?_)
  refine k p l e s m args below meth c H locs ls' F J P S (zls.put1 (v := zI v) hl' (fun j w hj => ?_))
  by_cases hjk : j = 10
  · subst hjk
    refine Or.inl ⟨rfl, ?_⟩
    have h9 : (some (zI v)) = some w := by simpa using hj
    exact (Option.some.inj h9).symm
  · refine Or.inr ⟨hjk, ?_, (fun e => hc w (by have e2 : j = 9 := (by omega); subst e2; simpa using hj))⟩
    rw [← hj]
    exact z_lset 10 rfl j hjk

theorem z_aload_10 {x0 x1 x2 x3 x4 x5 x6 x7 x8 x9 : Option zV} {r : List (Option zV)} {v : Nat} (hd : decode M.2.1 pc = .ok (.aload 10, 2)) (hn : pc + 2 = n) (k : zW G M B Q n (x0 :: x1 :: x2 :: x3 :: x4 :: x5 :: x6 :: x7 :: x8 :: x9 :: some (zR v) :: r) (zR v :: stk) st) : zW G M B Q pc (x0 :: x1 :: x2 :: x3 :: x4 :: x5 :: x6 :: x7 :: x8 :: x9 :: some (zR v) :: r) stk st := by
  intro p l e s m args below meth c H locs ls F J P S hl
  have hx := F.1
  have hb := F.2.1
  subst hn
  have k := k p l e s m args below meth c H locs ls F J P S hl
  refine lv_aload hx hb hd (hl.2.2 10 (zR v) rfl) ?_
  exact k

theorem z_astore_10 {x0 x1 x2 x3 x4 x5 x6 x7 x8 x9 : Option zV} {y : Option zV} {r : List (Option zV)} {v : Nat} (hd : decode M.2.1 pc = .ok (.astore 10, 2)) (hn : pc + 2 = n) (hL : 10 < M.2.2.1) (hc : ∀ w, x9 = some w → zcat w = 1) (k : zW G M B Q n (x0 :: x1 :: x2 :: x3 :: x4 :: x5 :: x6 :: x7 :: x8 :: x9 :: some (zR v) :: r) stk st) : zW G M B Q pc (x0 :: x1 :: x2 :: x3 :: x4 :: x5 :: x6 :: x7 :: x8 :: x9 :: y :: r) (zR v :: stk) st := by
  intro p l e s m args below meth c H locs ls F J P S hl
  have hx := F.1
  have hb := F.2.1
  subst hn
  refine lv_astore hx hb hd hl.has hL rfl (fun ls' hl' => ?_)
  refine k p l e s m args below meth c H locs ls' F J P S (zls.put1 (v := zR v) hl' (fun j w hj => ?_))
  by_cases hjk : j = 10
  · subst hjk
    refine Or.inl ⟨rfl, ?_⟩
    have h9 : (some (zR v)) = some w := by simpa using hj
    exact (Option.some.inj h9).symm
  · refine Or.inr ⟨hjk, ?_, (fun e => hc w (by have e2 : j = 9 := (by omega); subst e2; simpa using hj))⟩
    rw [← hj]
    exact z_lset 10 rfl j hjk

theorem z_lload_10 {x0 x1 x2 x3 x4 x5 x6 x7 x8 x9 : Option zV} {r : List (Option zV)} {v : Int} (hd : decode M.2.1 pc = .ok (.lload 10, 2)) (hn : pc + 2 = n) (k : zW G M B Q n (x0 :: x1 :: x2 :: x3 :: x4 :: x5 :: x6 :: x7 :: x8 :: x9 :: some (zL v) :: r) (zL v :: stk) st) : zW G M B Q pc (x0 :: x1 :: x2 :: x3 :: x4 :: x5 :: x6 :: x7 :: x8 :: x9 :: some (zL v) :: r) stk st := by
  intro p l e s m args below meth c H locs ls F J P S hl
  have hx := F.1
  have hb := F.2.1
  subst hn
  have k := k p l e s m args below meth c H locs ls F J P S hl
  refine lv_lload hx hb hd (hl.2.2 10 (zL v) rfl) ?_
  exact k

theorem z_lstore_10 {x0 x1 x2 x3 x4 x5 x6 x7 x8 x9 : Option zV} {y y2 : Option zV} {r : List (Option zV)} {v : Int} (hd : decode M.2.1 pc = .ok (.lstore 10, 2)) (hn : pc + 2 = n) (hL : 10 + 1 < M.2.2.1) (hc : ∀ w, x9 = some w → zcat w = 1) (k : zW G M B Q n (x0 :: x1 :: x2 :: x3 :: x4 :: x5 :: x6 :: x7 :: x8 :: x9 :: some (zL v) :: none :: r) stk st) : zW G M B Q pc (x0 :: x1 :: x2 :: x3 :: x4 :: x5 :: x6 :: x7 :: x8 :: x9 :: y :: y2 :: r) (zL v :: stk) st := by
  intro p l e s m args below meth c H locs ls F J P S hl
  have hx := F.1
  have hb := F.2.1
  subst hn
  refine lv_lstore hx hb hd hl.has hL rfl (fun ls' hl' => ?_)
  refine k p l e s m args below meth c H locs ls' F J P S (zls.put2 (v := zL v) hl' (fun j w hj => ?_))
  by_cases hjk : j = 10
  · subst hjk
    refine Or.inl ⟨rfl, ?_⟩
    have h9 : (some (zL v)) = some w := by simpa using hj
    exact (Option.some.inj h9).symm
  · by_cases hj2 : j = 10 + 1
    · subst hj2
      have h9 : (none : Option zV) = some w := by simpa using hj
      cases h9
    · refine Or.inr ⟨hjk, hj2, ?_, (fun e => hc w (by have e2 : j = 9 := (by omega); subst e2; simpa using hj))⟩
      rw [← hj]
      exact z_lset2 10 rfl j hjk hj2

theorem z_iinc_10 {x0 x1 x2 x3 x4 x5 x6 x7 x8 x9 : Option zV} {r : List (Option zV)} {v i : Int} (hd : decode M.2.1 pc = .ok (.iinc 10 i, 3)) (hn : pc + 3 = n) (hL : 10 < M.2.2.1) (hc : ∀ w, x9 = some w → zcat w = 1) (k : zW G M B Q n (x0 :: x1 :: x2 :: x3 :: x4 :: x5 :: x6 :: x7 :: x8 :: x9 :: some (zI (v + i)) :: r) stk st) : zW G M B Q pc (x0 :: x1 :: x2 :: x3 :: x4 :: x5 :: x6 :: x7 :: x8 :: x9 :: some (zI v) :: r) stk st := by
  intro p l e s m args below meth c H locs ls F J P S hl
  have hx := F.1
  have hb := F.2.1
  subst hn
  obtain ⟨q, hq⟩ := List.getElem?_of_mem ((zas_mem (G := G) _ 0 (10, zc G (zI v))).mpr ⟨10, zI v, (rfl : (x0 :: x1 :: x2 :: x3 :: x4 :: x5 :: x6 :: x7 :: x8 :: x9 :: some (zI v) :: r)[10]? = some (some (zI v))), by simp⟩)
  refine lv_iinc (k := q) (v := Int32.ofInt (v + i)) hx hb hd hl.has hq (za_add v i) hL rfl (fun ls' hl' => ?_)
  refine k p l e s m args below meth c H locs ls' F J P S (zls.put1 (v := zI (v + i)) hl' (fun j w hj => ?_))
  by_cases hjk : j = 10
  · subst hjk
    refine Or.inl ⟨rfl, ?_⟩
    have h9 : (some (zI (v + i))) = some w := by simpa using hj
    exact (Option.some.inj h9).symm
  · refine Or.inr ⟨hjk, ?_, (fun e => hc w (by have e2 : j = 9 := (by omega); subst e2; simpa using hj))⟩
    rw [← hj]
    exact z_lset 10 rfl j hjk

theorem z_iload_11 {x0 x1 x2 x3 x4 x5 x6 x7 x8 x9 x10 : Option zV} {r : List (Option zV)} {v : Int} (hd : decode M.2.1 pc = .ok (.iload 11, 2)) (hn : pc + 2 = n) (k : zW G M B Q n (x0 :: x1 :: x2 :: x3 :: x4 :: x5 :: x6 :: x7 :: x8 :: x9 :: x10 :: some (zI v) :: r) (zI v :: stk) st) : zW G M B Q pc (x0 :: x1 :: x2 :: x3 :: x4 :: x5 :: x6 :: x7 :: x8 :: x9 :: x10 :: some (zI v) :: r) stk st := by
  intro p l e s m args below meth c H locs ls F J P S hl
  have hx := F.1
  have hb := F.2.1
  subst hn
  have k := k p l e s m args below meth c H locs ls F J P S hl
  refine lv_iload hx hb hd (hl.2.2 11 (zI v) rfl) ?_
  exact k

theorem z_istore_11 {x0 x1 x2 x3 x4 x5 x6 x7 x8 x9 x10 : Option zV} {y : Option zV} {r : List (Option zV)} {v : Int} (hd : decode M.2.1 pc = .ok (.istore 11, 2)) (hn : pc + 2 = n) (hL : 11 < M.2.2.1) (hc : ∀ w, x10 = some w → zcat w = 1) (k : zW G M B Q n (x0 :: x1 :: x2 :: x3 :: x4 :: x5 :: x6 :: x7 :: x8 :: x9 :: x10 :: some (zI v) :: r) stk st) : zW G M B Q pc (x0 :: x1 :: x2 :: x3 :: x4 :: x5 :: x6 :: x7 :: x8 :: x9 :: x10 :: y :: r) (zI v :: stk) st := by
  intro p l e s m args below meth c H locs ls F J P S hl
  have hx := F.1
  have hb := F.2.1
  subst hn
  refine lv_istore hx hb hd hl.has hL rfl (fun ls' hl' => ?_)
  refine k p l e s m args below meth c H locs ls' F J P S (zls.put1 (v := zI v) hl' (fun j w hj => ?_))
  by_cases hjk : j = 11
  · subst hjk
    refine Or.inl ⟨rfl, ?_⟩
    have h9 : (some (zI v)) = some w := by simpa using hj
    exact (Option.some.inj h9).symm
  · refine Or.inr ⟨hjk, ?_, (fun e => hc w (by have e2 : j = 10 := (by omega); subst e2; simpa using hj))⟩
    rw [← hj]
    exact z_lset 11 rfl j hjk

theorem z_aload_11 {x0 x1 x2 x3 x4 x5 x6 x7 x8 x9 x10 : Option zV} {r : List (Option zV)} {v : Nat} (hd : decode M.2.1 pc = .ok (.aload 11, 2)) (hn : pc + 2 = n) (k : zW G M B Q n (x0 :: x1 :: x2 :: x3 :: x4 :: x5 :: x6 :: x7 :: x8 :: x9 :: x10 :: some (zR v) :: r) (zR v :: stk) st) : zW G M B Q pc (x0 :: x1 :: x2 :: x3 :: x4 :: x5 :: x6 :: x7 :: x8 :: x9 :: x10 :: some (zR v) :: r) stk st := by
  intro p l e s m args below meth c H locs ls F J P S hl
  have hx := F.1
  have hb := F.2.1
  subst hn
  have k := k p l e s m args below meth c H locs ls F J P S hl
  refine lv_aload hx hb hd (hl.2.2 11 (zR v) rfl) ?_
  exact k

theorem z_astore_11 {x0 x1 x2 x3 x4 x5 x6 x7 x8 x9 x10 : Option zV} {y : Option zV} {r : List (Option zV)} {v : Nat} (hd : decode M.2.1 pc = .ok (.astore 11, 2)) (hn : pc + 2 = n) (hL : 11 < M.2.2.1) (hc : ∀ w, x10 = some w → zcat w = 1) (k : zW G M B Q n (x0 :: x1 :: x2 :: x3 :: x4 :: x5 :: x6 :: x7 :: x8 :: x9 :: x10 :: some (zR v) :: r) stk st) : zW G M B Q pc (x0 :: x1 :: x2 :: x3 :: x4 :: x5 :: x6 :: x7 :: x8 :: x9 :: x10 :: y :: r) (zR v :: stk) st := by
  intro p l e s m args below meth c H locs ls F J P S hl
  have hx := F.1
  have hb := F.2.1
  subst hn
  refine lv_astore hx hb hd hl.has hL rfl (fun ls' hl' => ?_)
  refine k p l e s m args below meth c H locs ls' F J P S (zls.put1 (v := zR v) hl' (fun j w hj => ?_))
  by_cases hjk : j = 11
  · subst hjk
    refine Or.inl ⟨rfl, ?_⟩
    have h9 : (some (zR v)) = some w := by simpa using hj
    exact (Option.some.inj h9).symm
  · refine Or.inr ⟨hjk, ?_, (fun e => hc w (by have e2 : j = 10 := (by omega); subst e2; simpa using hj))⟩
    rw [← hj]
    exact z_lset 11 rfl j hjk

theorem z_lload_11 {x0 x1 x2 x3 x4 x5 x6 x7 x8 x9 x10 : Option zV} {r : List (Option zV)} {v : Int} (hd : decode M.2.1 pc = .ok (.lload 11, 2)) (hn : pc + 2 = n) (k : zW G M B Q n (x0 :: x1 :: x2 :: x3 :: x4 :: x5 :: x6 :: x7 :: x8 :: x9 :: x10 :: some (zL v) :: r) (zL v :: stk) st) : zW G M B Q pc (x0 :: x1 :: x2 :: x3 :: x4 :: x5 :: x6 :: x7 :: x8 :: x9 :: x10 :: some (zL v) :: r) stk st := by
  intro p l e s m args below meth c H locs ls F J P S hl
  have hx := F.1
  have hb := F.2.1
  subst hn
  have k := k p l e s m args below meth c H locs ls F J P S hl
  refine lv_lload hx hb hd (hl.2.2 11 (zL v) rfl) ?_
  exact k

theorem z_lstore_11 {x0 x1 x2 x3 x4 x5 x6 x7 x8 x9 x10 : Option zV} {y y2 : Option zV} {r : List (Option zV)} {v : Int} (hd : decode M.2.1 pc = .ok (.lstore 11, 2)) (hn : pc + 2 = n) (hL : 11 + 1 < M.2.2.1) (hc : ∀ w, x10 = some w → zcat w = 1) (k : zW G M B Q n (x0 :: x1 :: x2 :: x3 :: x4 :: x5 :: x6 :: x7 :: x8 :: x9 :: x10 :: some (zL v) :: none :: r) stk st) : zW G M B Q pc (x0 :: x1 :: x2 :: x3 :: x4 :: x5 :: x6 :: x7 :: x8 :: x9 :: x10 :: y :: y2 :: r) (zL v :: stk) st := by
  intro p l e s m args below meth c H locs ls F J P S hl
  have hx := F.1
  have hb := F.2.1
  subst hn
  refine lv_lstore hx hb hd hl.has hL rfl (fun ls' hl' => ?_)
  refine k p l e s m args below meth c H locs ls' F J P S (zls.put2 (v := zL v) hl' (fun j w hj => ?_))
  by_cases hjk : j = 11
  · subst hjk
    refine Or.inl ⟨rfl, ?_⟩
    have h9 : (some (zL v)) = some w := by simpa using hj
    exact (Option.some.inj h9).symm
  · by_cases hj2 : j = 11 + 1
    · subst hj2
      have h9 : (none : Option zV) = some w := by simpa using hj
      cases h9
    · refine Or.inr ⟨hjk, hj2, ?_, (fun e => hc w (by have e2 : j = 10 := (by omega); subst e2; simpa using hj))⟩
      rw [← hj]
      exact z_lset2 11 rfl j hjk hj2

theorem z_iinc_11 {x0 x1 x2 x3 x4 x5 x6 x7 x8 x9 x10 : Option zV} {r : List (Option zV)} {v i : Int} (hd : decode M.2.1 pc = .ok (.iinc 11 i, 3)) (hn : pc + 3 = n) (hL : 11 < M.2.2.1) (hc : ∀ w, x10 = some w → zcat w = 1) (k : zW G M B Q n (x0 :: x1 :: x2 :: x3 :: x4 :: x5 :: x6 :: x7 :: x8 :: x9 :: x10 :: some (zI (v + i)) :: r) stk st) : zW G M B Q pc (x0 :: x1 :: x2 :: x3 :: x4 :: x5 :: x6 :: x7 :: x8 :: x9 :: x10 :: some (zI v) :: r) stk st := by
  intro p l e s m args below meth c H locs ls F J P S hl
  have hx := F.1
  have hb := F.2.1
  subst hn
  obtain ⟨q, hq⟩ := List.getElem?_of_mem ((zas_mem (G := G) _ 0 (11, zc G (zI v))).mpr ⟨11, zI v, (rfl : (x0 :: x1 :: x2 :: x3 :: x4 :: x5 :: x6 :: x7 :: x8 :: x9 :: x10 :: some (zI v) :: r)[11]? = some (some (zI v))), by simp⟩)
  refine lv_iinc (k := q) (v := Int32.ofInt (v + i)) hx hb hd hl.has hq (za_add v i) hL rfl (fun ls' hl' => ?_)
  refine k p l e s m args below meth c H locs ls' F J P S (zls.put1 (v := zI (v + i)) hl' (fun j w hj => ?_))
  by_cases hjk : j = 11
  · subst hjk
    refine Or.inl ⟨rfl, ?_⟩
    have h9 : (some (zI (v + i))) = some w := by simpa using hj
    exact (Option.some.inj h9).symm
  · refine Or.inr ⟨hjk, ?_, (fun e => hc w (by have e2 : j = 10 := (by omega); subst e2; simpa using hj))⟩
    rw [← hj]
    exact z_lset 11 rfl j hjk

end ZR
