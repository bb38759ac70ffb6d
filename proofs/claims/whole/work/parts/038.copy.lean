/-! System.arraycopy -/
theorem ac_X3_55 : Cond.methodLink RX3 55 arraycopyName ∈ zT := z_in 458 (by decide +kernel) (by decide +kernel)
theorem ac_X4_58 : Cond.methodLink RX4 58 arraycopyName ∈ zT := z_in 549 (by decide +kernel) (by decide +kernel)
theorem ac_X5_19 : Cond.methodLink RX5 19 arraycopyName ∈ zT := z_in 665 (by decide +kernel) (by decide +kernel)
theorem ac_nat : Cond.native arraycopyName ∈ zT := z_in 460 (by decide +kernel) (by decide +kernel)
theorem ac_sta : Cond.static arraycopyName ∈ zT := z_in 459 (by decide +kernel) (by decide +kernel)
def zcp (f g : Int → Int) (sp dp n : Int) : Int → Int := fun j => if dp ≤ j ∧ j < dp + n then f (sp + (j - dp)) else g j
theorem zcp_va {α : Type} (T : Int → α) {f g : Int → Int} {sp dp n : Int} (h1 : 0 ≤ sp) (h2 : 0 ≤ dp) (h3 : 0 ≤ n) : va_cpy (fun j : Nat => T (f j)) (fun j : Nat => T (g j)) sp.toNat dp.toNat n.toNat = fun j : Nat => T (zcp f g sp dp n j) := by
  funext j
  unfold va_cpy zcp
  by_cases h : dp.toNat ≤ j ∧ j < dp.toNat + n.toNat
  · rw [if_pos h, if_pos (by omega)]
    have e : ((sp.toNat + (j - dp.toNat) : Nat) : Int) = sp + ((j : Int) - dp) := by omega
    show T (f ((sp.toNat + (j - dp.toNat) : Nat) : Int)) = _
    rw [e]
  · rw [if_neg h, if_neg (by omega)]
section ZAC
variable {G : zG} {M : zM} {B : Room × Nat × Nat} {Q : List Frame → Array Value → State → State → Prop} {pc n : Nat} {L : List (Option zV)} {stk : List zV} {sz : zSz} {ar : zAr}
theorem z_acopy {k0 k1 N0 N1 ix : Nat} {sp dp c : Int} (hd : decode M.2.1 pc = .ok (.invokestatic ix, 3)) (hn : pc + 3 = n) (hl : Cond.methodLink M.1.cls ix arraycopyName ∈ zT) (h0 : X sz ar k0 = zA 1 N0 (ar k0)) (h1 : X sz ar k1 = zA 1 N1 (ar k1)) (hq : ∀ f, zA 1 N1 f = XF k1 (sz k1) f) (g1 : 0 ≤ sp) (g2 : 0 ≤ dp) (g3 : 0 ≤ c) (g4 : sp + c ≤ N0) (g5 : dp + c ≤ N1) (g6 : N0 < 2147483648 ∧ N1 < 2147483648) (hr : 1 ≤ B.1.frames) (hr2 : (stk.map zcat).sum + 30 ≤ B.1.locals) (kk : zW G M B Q n L stk (X sz (zq ar k1 (zcp (ar k0) (ar k1) sp dp c)))) : zW G M B Q pc L (zI c :: zI dp :: zR k1 :: zI sp :: zR k0 :: stk) (X sz ar) := by
  intro p l e s m args below meth cd H locs ls F J P S hls
  have F' := F
  obtain ⟨hx, hb, hrt, hml, hown, hts, hlocks, hK, hI, hZ⟩ := F'
  subst hn
  have hw0 := zw_arr (G := G) J h0 (by decide)
  have hw1 := zw_arr (G := G) J h1 (by decide)
  rw [zcr1 _ (by decide) (by decide)] at hw0 hw1
  refine va_copyi hx hb (hml.trans hls.1.symm) hown (hts _ hl) (hts _ ac_nat) (hts _ ac_sta) (hts _ ini_RJ10) hK P (zw_D hI) S k0 k1 1 1 hw0 hw1 rfl rfl rfl (by rw [za_lt0 ⟨by omega, by omega⟩]; omega) (by rw [za_lt0 ⟨by omega, by omega⟩]; omega) (by rw [za_lt0 ⟨by omega, by omega⟩]; omega) (by rw [za_cl g1 (by omega), za_cl g3 (by omega)]; omega) (by rw [za_cl g2 (by omega), za_cl g3 (by omega)]; omega) (fun _ _ => rfl) hr (by rw [zcats]; exact Nat.le_trans (Nat.add_le_add_left (Nat.le_of_ble_eq_true rfl) _) hr2) hd (fun H1 locs1 P1 D1 S1 => ?_)
  refine kk p l e s m args below meth cd H1 locs1 ls F (X_J _ _) ?_ S1 hls
  rw [← X_putA (sz := sz) (hq _), ← zw_set (J.lta h1 (by decide))]
  have e2 : zcc G (zA 1 N1 (zcp (ar k0) (ar k1) sp dp c)) = (Sum.inl (G.2.1 1, N1, Sum.inl (va_cpy (fun j => Int32.ofInt (ar k0 j)) (fun j => Int32.ofInt (ar k1 j)) (Int32.ofInt sp).toNatClampNeg (Int32.ofInt dp).toNatClampNeg (Int32.ofInt c).toNatClampNeg)) : va_E) := by
    rw [za_cl g1 (by omega), za_cl g2 (by omega), za_cl g3 (by omega), zcp_va Int32.ofInt g1 g2 g3]; rfl
  rw [e2]
  exact P1
theorem z_acopyL {k0 k1 N0 N1 ix : Nat} {sp dp c : Int} (hd : decode M.2.1 pc = .ok (.invokestatic ix, 3)) (hn : pc + 3 = n) (hl : Cond.methodLink M.1.cls ix arraycopyName ∈ zT) (h0 : X sz ar k0 = zA 2 N0 (ar k0)) (h1 : X sz ar k1 = zA 2 N1 (ar k1)) (hq : ∀ f, zA 2 N1 f = XF k1 (sz k1) f) (g1 : 0 ≤ sp) (g2 : 0 ≤ dp) (g3 : 0 ≤ c) (g4 : sp + c ≤ N0) (g5 : dp + c ≤ N1) (g6 : N0 < 2147483648 ∧ N1 < 2147483648) (hr : 1 ≤ B.1.frames) (hr2 : (stk.map zcat).sum + 30 ≤ B.1.locals) (kk : zW G M B Q n L stk (X sz (zq ar k1 (zcp (ar k0) (ar k1) sp dp c)))) : zW G M B Q pc L (zI c :: zI dp :: zR k1 :: zI sp :: zR k0 :: stk) (X sz ar) := by
  intro p l e s m args below meth cd H locs ls F J P S hls
  have F' := F
  obtain ⟨hx, hb, hrt, hml, hown, hts, hlocks, hK, hI, hZ⟩ := F'
  subst hn
  have hw0 := zw_arr (G := G) J h0 (by decide)
  have hw1 := zw_arr (G := G) J h1 (by decide)
  refine va_copyl hx hb (hml.trans hls.1.symm) hown (hts _ hl) (hts _ ac_nat) (hts _ ac_sta) (hts _ ini_RJ10) hK P (zw_D hI) S k0 k1 2 2 hw0 hw1 rfl rfl rfl (by rw [za_lt0 ⟨by omega, by omega⟩]; omega) (by rw [za_lt0 ⟨by omega, by omega⟩]; omega) (by rw [za_lt0 ⟨by omega, by omega⟩]; omega) (by rw [za_cl g1 (by omega), za_cl g3 (by omega)]; omega) (by rw [za_cl g2 (by omega), za_cl g3 (by omega)]; omega) (fun _ _ => rfl) hr (by rw [zcats]; exact Nat.le_trans (Nat.add_le_add_left (Nat.le_of_ble_eq_true rfl) _) hr2) hd (fun H1 locs1 P1 D1 S1 => ?_)
  refine kk p l e s m args below meth cd H1 locs1 ls F (X_J _ _) ?_ S1 hls
  rw [← X_putA (sz := sz) (hq _), ← zw_set (J.lta h1 (by decide))]
  have e2 : zcc G (zA 2 N1 (zcp (ar k0) (ar k1) sp dp c)) = (Sum.inl (G.2.1 2, N1, Sum.inr (Sum.inl (va_cpy (fun j => Int64.ofInt (ar k0 j)) (fun j => Int64.ofInt (ar k1 j)) (Int32.ofInt sp).toNatClampNeg (Int32.ofInt dp).toNatClampNeg (Int32.ofInt c).toNatClampNeg))) : va_E) := by
    rw [za_cl g1 (by omega), za_cl g2 (by omega), za_cl g3 (by omega), zcp_va Int64.ofInt g1 g2 g3]; rfl
  rw [e2]
  exact P1
end ZAC
