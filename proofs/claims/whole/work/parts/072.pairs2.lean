/-! both change alike -/
section ZPAIR2
variable {G : zG} {N : Int} {sz : zSz} {ar : zAr}
theorem INV.page {ws kw : Int → List Int} {p : Int} {c : Int → Int} {sz' : zSz} {ar' : zAr} (hI : INV N ws kw sz ar) (h1 : sz' 1 1 = p) (h2 : sz' 41 10 = p) (h3 : ar' 2 = c) (h4 : ar' 49 = c) (hp0 : 0 ≤ p) (hp1 : p ≤ 24) (hc : ∀ i, 0 ≤ c i ∧ c i ≤ 126) (hs : ∀ j, j ≠ 1 → j ≠ 41 → sz' j = sz j) (hm : ∀ i, i ≠ 10 → sz' 41 i = sz 41 i) (ha : ∀ j, j ≠ 2 → j ≠ 49 → ar' j = ar j) : INV N ws kw sz' ar' := by
  obtain ⟨hA, hB, hW, hS, hC, hK⟩ := hI
  refine ⟨?_, ⟨by rw [h1, h2], by rw [h3, h4], by rw [h2]; exact hp0, by rw [h2]; exact hp1, by rw [h4]; exact hc⟩, ?_, ?_, ?_, ?_⟩
  · rw [hs 3 (by omega) (by omega), hm 0 (by omega), hm 3 (by omega), ha 4 (by omega) (by omega), ha 5 (by omega) (by omega), ha 42 (by omega) (by omega), ha 43 (by omega) (by omega)]; exact hA
  · rw [hs 14 (by omega) (by omega), hs 16 (by omega) (by omega), hs 18 (by omega) (by omega), hm 0 (by omega), ha 15 (by omega) (by omega), ha 17 (by omega) (by omega), ha 19 (by omega) (by omega), ha 44 (by omega) (by omega), ha 45 (by omega) (by omega)]; exact hW
  · rw [hs 27 (by omega) (by omega), hm 6 (by omega), ha 28 (by omega) (by omega), ha 46 (by omega) (by omega), ha 47 (by omega) (by omega), ha 48 (by omega) (by omega)]; exact hS
  · rw [hs 0 (by omega) (by omega), hm 3 (by omega), hm 19 (by omega)]; exact hC
  · unfold KK
    rw [hs 0 (by omega) (by omega), hs 8 (by omega) (by omega), hs 21 (by omega) (by omega), hs 23 (by omega) (by omega), hs 25 (by omega) (by omega), hs 29 (by omega) (by omega), hm 20 (by omega), hm 21 (by omega), ha 9 (by omega) (by omega), ha 10 (by omega) (by omega), ha 54 (by omega) (by omega), ha 55 (by omega) (by omega), ha 56 (by omega) (by omega), ha 57 (by omega) (by omega), ha 58 (by omega) (by omega), ha 59 (by omega) (by omega), ha 60 (by omega) (by omega), ha 22 (by omega) (by omega), ha 24 (by omega) (by omega), ha 26 (by omega) (by omega), ha 30 (by omega) (by omega)]; exact hK
theorem p_letter {c : Int} (h : IN N sz ar) (hN : N ≤ 1000) (hc : zr c) : zSem G mX6_letter 1 [zR 0, zI c] (X sz ar) (zpi fun r u => ∃ sz1 ar1, u = X sz1 ar1 ∧ zSem G mX7_letter 1 [zR 41, zI c] (X sz1 ar1) (LE r N)) := by
  obtain ⟨ws, kw, hI⟩ := h
  have hb := hI.2.1
  obtain ⟨b1, b2, b3, b4, b5⟩ := hb
  have hC := hI.ck hN
  refine zSem_wk (c_X6_letter hc hC.2.1.1 hC.2.1.2.1) ?_
  rintro r u (⟨h1, rfl, rfl⟩ | ⟨h1, h2, rfl, rfl⟩ | ⟨h1, h2, rfl, rfl⟩)
  · refine ⟨sz, ar, rfl, zSem_wk (c_X7_letter hc b3 b4) ?_⟩
    rintro r u (⟨g1, rfl, rfl⟩ | ⟨g1, g2, rfl, rfl⟩ | ⟨g1, g2, rfl, rfl⟩)
    · exact ⟨rfl, _, _, rfl, hI.up2⟩
    · exact absurd g1 h1
    · exact absurd g1 h1
  · refine ⟨_, _, rfl, zSem_wk (c_X7_letter hc b3 b4) ?_⟩
    rintro r u (⟨g1, rfl, rfl⟩ | ⟨g1, g2, rfl, rfl⟩ | ⟨g1, g2, rfl, rfl⟩)
    · exact absurd h1 g1
    · refine ⟨by rw [b1]; rfl, _, _, rfl, ws, kw, ?_⟩
      refine (hI.page (p := sz 41 10 + 1) (c := zf (ar 49) (sz 41 10) c) (by rw [← b1]; rfl) rfl (by rw [← b1, ← b2]; rfl) rfl (by omega) (by rw [b1] at h2; omega) (fun i => ?_) (fun j a b => ?_) (fun i a => ?_) (fun j a b => ?_)).up
      · by_cases e : i = sz 41 10
        · rw [e, zf_eq]; omega
        · rw [zf_ne e]; exact b5 i
      · rw [zz_ne b, zz_ne a]
      · rw [zz_ni a, zz_ne (by decide)]
      · rw [zq_ne b, zq_ne a]
    · exfalso
      have e : zz sz 1 1 (sz 1 1 + 1) 41 10 = sz 41 10 := rfl
      omega
  · refine ⟨sz, ar, rfl, zSem_wk (c_X7_letter hc b3 b4) ?_⟩
    rintro r u (⟨g1, rfl, rfl⟩ | ⟨g1, g2, rfl, rfl⟩ | ⟨g1, g2, rfl, rfl⟩)
    · exact absurd h1 g1
    · exfalso; omega
    · exact ⟨rfl, _, _, rfl, hI.up2⟩
theorem INV.blank {ws kw : Int → List Int} (hI : INV N ws kw sz ar) : INV N ws kw (zz (zz sz 1 1 0) 41 10 0) ar :=
  hI.page (p := 0) (c := ar 49) rfl rfl hI.2.1.2.1 rfl (by omega) (by omega) hI.2.1.2.2.2.2 (fun j a b => by rw [zz_ne b, zz_ne a]) (fun i a => by rw [zz_ni a, zz_ne (by decide)]) (fun j a b => rfl)
theorem p_blank (h : IN N sz ar) (hN : N ≤ 1000) : zSem G mX6_blank 1 [zR 0] (X sz ar) (zpi fun r u => ∃ sz1 ar1, u = X sz1 ar1 ∧ zSem G mX7_blank 0 [zR 41] (X sz1 ar1) (LE r N)) := by
  obtain ⟨ws, kw, hI⟩ := h
  refine zSem_wk c_X6_blank ?_
  rintro r u ⟨rfl, rfl⟩
  refine ⟨_, _, rfl, zSem_wk c_X7_blank ?_⟩
  rintro r u ⟨rfl, rfl⟩
  exact ⟨hI.2.1.1.symm, _, _, rfl, ws, kw, hI.blank.up⟩
theorem isM_MOK {p : Int} {c k0 n0 : Int → Int} (h : isM p c) (h0 : 0 ≤ p) (h1 : p ≤ 24) : MOK ((p + 1) / 4) (rdK c ((p + 1) / 4) k0) (rdN c ((p + 1) / 4) n0) := by
  obtain ⟨m1, m2, m3⟩ := h
  have hff := ffG_r (fun i => ¬ fitP i (c i)) p.toNat 0
  refine ⟨by omega, by omega, fun s a b => ?_, fun j a b => ?_⟩
  · have hf : fitP (4 * s) (c (4 * s)) := Classical.byContradiction (hff.2.2.2 (4 * s) (by omega) (by omega))
    have hk := kindB_r (c (4 * s))
    unfold rdK
    rw [if_pos ⟨a, b⟩]
    unfold fitP at hf
    omega
  · unfold rdN
    rw [if_pos ⟨a, b⟩]
    have hn := nxt_r (c (4 * (j / 2) + 1 + j % 2))
    have hm := m3 (j / 2) (by omega) (by omega)
    refine ⟨hn.1, ?_⟩
    have : j % 2 = 0 ∨ j % 2 = 1 := by omega
    rcases this with e | e
    · rw [e, show 4 * (j / 2) + 1 + 0 = 4 * (j / 2) + 1 by omega]; exact hm.1
    · rw [e, show 4 * (j / 2) + 1 + 1 = 4 * (j / 2) + 2 by omega]; exact hm.2
theorem p_machine (h : IN N sz ar) (hN : N ≤ 1000) : zSem G mX6_machine 8 [zR 0] (X sz ar) (zpi fun r u => ∃ sz1 ar1, u = X sz1 ar1 ∧ zSem G mX7_machine 3 [zR 41] (X sz1 ar1) (LE r N)) := by
  obtain ⟨ws, kw, hI⟩ := h
  obtain ⟨b1, b2, b3, b4, b5⟩ := hI.2.1
  have hC := hI.ck hN
  refine zSem_wk (c_X6_machine hC.2.1.1 hC.2.1.2.1 hC.2.1.2.2) ?_
  rintro r u (⟨h1, rfl, rfl⟩ | ⟨h1, rfl, sz1, ar1, rfl, m1, m2, m3, m4, m5, m6, m7, m8, m9, m10, m11, m12, m13, m14⟩)
  · refine ⟨sz, ar, rfl, zSem_wk (c_X7_machine b3 b4 b5) ?_⟩
    rintro r u (⟨g1, rfl, rfl⟩ | ⟨g1, rfl, g2⟩)
    · exact ⟨rfl, _, _, rfl, hI.up2⟩
    · exact absurd (by rw [b1, b2]; exact g1) h1
  · have e41 : sz1 41 = sz 41 := m12 41 (by omega) (by omega)
    have e49 : ar1 49 = ar 49 := m14 49 (by omega) (by omega) (by omega)
    have e42 : ar1 42 = ar 42 := m14 42 (by omega) (by omega) (by omega)
    have e43 : ar1 43 = ar 43 := m14 43 (by omega) (by omega) (by omega)
    refine ⟨sz1, ar1, rfl, zSem_wk (c_X7_machine (by rw [e41]; exact b3) (by rw [e41]; exact b4) (by rw [e49]; exact b5)) ?_⟩
    rw [b1, b2] at h1
    rw [e41, e49]
    rintro r u (⟨g1, rfl, rfl⟩ | ⟨g1, rfl, sz2, ar2, rfl, n1, n2, n3, n4, n5, n6, n7, n8, n9, n10⟩)
    · exact absurd h1 g1
    · refine ⟨by rw [b1], sz2, ar2, rfl, fun _ => [], kw, ?_⟩
      obtain ⟨⟨a1, a2, a3, a4, a5⟩, hB, hW, ⟨s1, s2, s3, s4, s5, s6, s7⟩, ⟨c1, c2, c3, c4, c5, c6⟩, ⟨k1, k2, k3, k4, k5, k6⟩⟩ := hI
      have r3 : sz2 41 3 = sz 41 3 + 1 := by rw [n4, e41]
      have r19 : sz2 41 19 = sz 41 19 := by rw [n9 19 (by omega) (by omega) (by omega) (by omega), e41]
      have r0 : sz2 0 10 = 0 := by rw [n8 0 (by omega)]; exact m7
      refine ⟨⟨?_, ?_, ?_, ?_, ?_⟩, ⟨?_, ?_, ?_, ?_, ?_⟩, ⟨?_, ?_, ?_, fun w x y => ⟨?_, Lt.nil, by simp, Rdd.nil⟩⟩, ⟨?_, ?_, ?_, ?_, ?_, ?_, fun s x y => ?_⟩, ⟨?_, ?_, ?_, ?_, ?_, ?_⟩, ⟨?_, ?_, ?_, ?_, ?_, ?_⟩⟩
      · rw [n8 3 (by omega), n1, m1, b1]
      · rw [n10 4 (by omega) (by omega) (by omega), n5, m9, e49, e42, b2, a2, b1]
      · rw [n10 5 (by omega) (by omega) (by omega), n6, m10, e49, e43, b2, a3, b1]
      · rw [n1, n5, n6, e49]; exact isM_MOK h1 b3 b4
      · intro _; omega
      · rw [n8 1 (by omega), m2, n2]
      · rw [n10 2 (by omega) (by omega) (by omega), n10 49 (by omega) (by omega) (by omega), m14 2 (by omega) (by omega) (by omega), e49, b2]
      · rw [n2]; omega
      · rw [n2]; omega
      · rw [n10 49 (by omega) (by omega) (by omega), e49]; exact b5
      · rw [n8 14 (by omega), m3]; exact LR.nil
      · rw [n8 16 (by omega), m4]; exact LR.nil
      · rw [n8 18 (by omega), m5]; exact LR.nil
      · rw [n7 w x y]; exact LR.nil
      · rw [n8 27 (by omega), m6, n3]
      · rw [n3]; omega
      · rw [n3]; omega
      · rw [n10 46 (by omega) (by omega) (by omega), m14 46 (by omega) (by omega) (by omega)]; exact s4
      · rw [n10 47 (by omega) (by omega) (by omega), m14 47 (by omega) (by omega) (by omega)]; exact s5
      · rw [n10 48 (by omega) (by omega) (by omega), m14 48 (by omega) (by omega) (by omega)]; exact s6
      · rw [n3, srt_0, n10 28 (by omega) (by omega) (by omega)]; exact m11 s x y
      · rw [n8 0 (by omega), m8, r3, c1]
      · rw [r19]; exact c2
      · omega
      · omega
      · exact Or.inl r0
      · rw [r0, r19, r3]; omega
      · rw [n10 9 (by omega) (by omega) (by omega), n10 54 (by omega) (by omega) (by omega), m14 9 (by omega) (by omega) (by omega), m14 54 (by omega) (by omega) (by omega)]; exact k1
      · rw [n10 10 (by omega) (by omega) (by omega), n10 55 (by omega) (by omega) (by omega), m14 10 (by omega) (by omega) (by omega), m14 55 (by omega) (by omega) (by omega)]; exact k2
      · rw [n10 58 (by omega) (by omega) (by omega), m14 58 (by omega) (by omega) (by omega)]; exact k3
      · rw [n10 59 (by omega) (by omega) (by omega), m14 59 (by omega) (by omega) (by omega)]; exact k4
      · rw [n10 60 (by omega) (by omega) (by omega), m14 60 (by omega) (by omega) (by omega)]; exact k5
      · intro z; rw [r0] at z; omega
def upW (ws : Int → List Int) (t : Int) (xs : List Int) : Int → List Int := fun w => if w = t then xs else ws w
theorem upW_eq {ws : Int → List Int} {t : Int} {xs : List Int} : upW ws t xs t = xs := if_pos rfl
theorem upW_ne {ws : Int → List Int} {t w : Int} {xs : List Int} (h : ¬ w = t) : upW ws t xs w = ws w := if_neg h
/-- a word is new in both -/
theorem INV.wd {ws kw : Int → List Int} {t : Int} {xs : List Int} {sz1 sz' : zSz} {ar1 ar2 ar' : zAr} (hI : INV N ws kw sz ar) (h0 : 0 ≤ t) (h1 : t < 3) (hx : Lt (sz 41 0) xs) (hl : xs.length ≤ 16) (hr : Rdd xs)
    (hf : Fr (14 + 2 * t).toNat sz ar sz1 ar1) (hL : LR (sz1 (14 + 2 * t).toNat 1) (ar1 ((14 + 2 * t).toNat + 1)) xs) (hG : Mg sz1 ar1 sz' ar2) (hK : PK t xs ar2 ar') : ∃ ws', INV N ws' kw sz' ar' := by
  refine ⟨upW ws t xs, ?_⟩
  obtain ⟨q1, q2, q3, q4⟩ := hK
  have ht : (14 + 2 * t).toNat = 14 ∨ (14 + 2 * t).toNat = 16 ∨ (14 + 2 * t).toNat = 18 := by omega
  have es : ∀ j, j ≠ 14 → j ≠ 16 → j ≠ 18 → j ≠ 41 → sz' j = sz j := fun j a b c d => (hG.1 j d).trans (hf.1 j (by omega))
  have em : ∀ i, i ≠ 12 → i ≠ 14 → i ≠ 17 → sz' 41 i = sz 41 i := fun i a b c => (hG.2.1 i a b c).trans (by rw [hf.1 41 (by omega)])
  have ea : ∀ j, j ≠ 15 → j ≠ 17 → j ≠ 19 → j ≠ 44 → j ≠ 45 → j < 50 ∨ 53 < j → ar' j = ar j := fun j a b c d e f => (q4 j d e).trans ((hG.2.2 j f).trans (hf.2 j (by omega)))
  have el : ∀ j, j ≠ (14 + 2 * t).toNat → j = 14 ∨ j = 16 ∨ j = 18 → sz' j = sz j ∧ ar' (j + 1) = ar (j + 1) := fun j a b => ⟨(hG.1 j (by omega)).trans (hf.1 j a), (q4 _ (by omega) (by omega)).trans ((hG.2.2 _ (by omega)).trans (hf.2 _ (by omega)))⟩
  have eL : LR (sz' (14 + 2 * t).toNat 1) (ar' ((14 + 2 * t).toNat + 1)) xs := by rw [hG.1 _ (by omega), q4 _ (by omega) (by omega), hG.2.2 _ (by omega)]; exact hL
  have e44 : ∀ v, v ≠ t → ar' 44 v = ar 44 v := fun v a => by rw [q2 v a, hG.2.2 44 (by omega), hf.2 44 (by omega)]
  have e45 : ∀ j, ¬ (16 * t ≤ j ∧ j < 16 * t + 16) → ar' 45 j = ar 45 j := fun j a => by rw [q3 j a, hG.2.2 45 (by omega), hf.2 45 (by omega)]
  obtain ⟨hA, hB, ⟨w0, w1, w2, w3⟩, hS, hC, hKK⟩ := hI
  refine ⟨?_, ?_, ⟨?_, ?_, ?_, fun w a b => ?_⟩, ?_, ?_, ?_⟩
  · rw [es 3 (by omega) (by omega) (by omega) (by omega), em 0 (by omega) (by omega) (by omega), em 3 (by omega) (by omega) (by omega), ea 4 (by omega) (by omega) (by omega) (by omega) (by omega) (by omega), ea 5 (by omega) (by omega) (by omega) (by omega) (by omega) (by omega), ea 42 (by omega) (by omega) (by omega) (by omega) (by omega) (by omega), ea 43 (by omega) (by omega) (by omega) (by omega) (by omega) (by omega)]; exact hA
  · rw [es 1 (by omega) (by omega) (by omega) (by omega), em 10 (by omega) (by omega) (by omega), ea 2 (by omega) (by omega) (by omega) (by omega) (by omega) (by omega), ea 49 (by omega) (by omega) (by omega) (by omega) (by omega) (by omega)]; exact hB
  · by_cases e : (0 : Int) = t
    · subst e; rw [upW_eq]; exact eL
    · rw [upW_ne e, (el 14 (by omega) (by omega)).1, (el 14 (by omega) (by omega)).2]; exact w0
  · by_cases e : (1 : Int) = t
    · subst e; rw [upW_eq]; exact eL
    · rw [upW_ne e, (el 16 (by omega) (by omega)).1, (el 16 (by omega) (by omega)).2]; exact w1
  · by_cases e : (2 : Int) = t
    · subst e; rw [upW_eq]; exact eL
    · rw [upW_ne e, (el 18 (by omega) (by omega)).1, (el 18 (by omega) (by omega)).2]; exact w2
  · rw [em 0 (by omega) (by omega) (by omega)]
    by_cases e : w = t
    · subst e
      rw [upW_eq]
      exact ⟨q1, hx, hl, hr⟩
    · rw [upW_ne e]
      have hw := w3 w a b
      refine ⟨⟨by rw [e44 w e]; exact hw.1.1, fun i hi => ?_⟩, hw.2⟩
      have hlen := hw.2.2.1
      show ar' 45 (16 * w + i) = _
      rw [e45 _ (by omega)]
      exact hw.1.2 i hi
  · rw [es 27 (by omega) (by omega) (by omega) (by omega), em 6 (by omega) (by omega) (by omega), ea 28 (by omega) (by omega) (by omega) (by omega) (by omega) (by omega), ea 46 (by omega) (by omega) (by omega) (by omega) (by omega) (by omega), ea 47 (by omega) (by omega) (by omega) (by omega) (by omega) (by omega), ea 48 (by omega) (by omega) (by omega) (by omega) (by omega) (by omega)]; exact hS
  · rw [es 0 (by omega) (by omega) (by omega) (by omega), em 3 (by omega) (by omega) (by omega), em 19 (by omega) (by omega) (by omega)]; exact hC
  · unfold KK
    rw [es 0 (by omega) (by omega) (by omega) (by omega), es 8 (by omega) (by omega) (by omega) (by omega), es 21 (by omega) (by omega) (by omega) (by omega), es 23 (by omega) (by omega) (by omega) (by omega), es 25 (by omega) (by omega) (by omega) (by omega), es 29 (by omega) (by omega) (by omega) (by omega), em 20 (by omega) (by omega) (by omega), em 21 (by omega) (by omega) (by omega)]
    rw [ea 9 (by omega) (by omega) (by omega) (by omega) (by omega) (by omega), ea 10 (by omega) (by omega) (by omega) (by omega) (by omega) (by omega), ea 54 (by omega) (by omega) (by omega) (by omega) (by omega) (by omega), ea 55 (by omega) (by omega) (by omega) (by omega) (by omega) (by omega), ea 56 (by omega) (by omega) (by omega) (by omega) (by omega) (by omega), ea 57 (by omega) (by omega) (by omega) (by omega) (by omega) (by omega), ea 58 (by omega) (by omega) (by omega) (by omega) (by omega) (by omega), ea 59 (by omega) (by omega) (by omega) (by omega) (by omega) (by omega), ea 60 (by omega) (by omega) (by omega) (by omega) (by omega) (by omega), ea 22 (by omega) (by omega) (by omega) (by omega) (by omega) (by omega), ea 24 (by omega) (by omega) (by omega) (by omega) (by omega) (by omega), ea 26 (by omega) (by omega) (by omega) (by omega) (by omega) (by omega), ea 30 (by omega) (by omega) (by omega) (by omega) (by omega) (by omega)]
    exact hKK
theorem p_undo {a t : Int} (h : IN N sz ar) (hN : N ≤ 1000) (ha : zr a) (ht : zr t) : zSem G mX6_undo 3 [zR 0, zI a, zI t] (X sz ar) (zpi fun r u => ∃ sz1 ar1, u = X sz1 ar1 ∧ zSem G mX7_undo 2 [zR 41, zI a, zI t] (X sz1 ar1) (LE r N)) := by
  obtain ⟨ws, kw, hI⟩ := h
  have en := hI.1.1
  refine zSem_wk (c_X6_undo ha ht (hI.ck hN)) ?_
  rintro r u (⟨h1, rfl, rfl⟩ | ⟨h1, rfl, sz0, ar0, sz1, ar1, hF, rfl, hf, hL⟩)
  · refine ⟨sz, ar, rfl, zSem_wk (c_X7_undo ha ht (hI.mk hN)) ?_⟩
    rintro r u (⟨g1, rfl, rfl⟩ | ⟨g1, rfl, g2⟩)
    · exact ⟨rfl, _, _, rfl, hI.up2⟩
    · exfalso; omega
  · have hI0 := hI.fr hF.ce hF.me
    have wa := (hI.2.2.1.2.2.2 a (by omega) (by omega))
    have hfl := foldl_red_len (undone (ws a)) []
    rw [undone_len] at hfl
    simp only [List.length_nil] at hfl
    have e41 : sz1 41 = sz 41 := (hf.1 41 (by omega)).trans (hF.1 41 (by omega))
    have ea : ∀ j, 40 < j → ar1 j = ar j := fun j hj => (hf.2 j (by omega)).trans (hF.2 j (by omega) (by omega) (by omega))
    have hM1 : MK ws sz1 ar1 := by
      have := hI.mk hN
      unfold MK at this ⊢
      rw [e41, ea 42 (by omega), ea 43 (by omega), ea 44 (by omega), ea 45 (by omega), ea 46 (by omega), ea 47 (by omega), ea 48 (by omega), ea 49 (by omega)]
      exact this
    refine ⟨sz1, ar1, rfl, zSem_wk (c_X7_undo ha ht hM1) ?_⟩
    rw [e41]
    rintro r u (⟨g1, rfl, rfl⟩ | ⟨g1, rfl, sz3, ar3, ar4, hG, rfl, hK⟩)
    · exfalso; omega
    · obtain ⟨ws', hI'⟩ := hI0.wd (t := t) (xs := (undone (ws a)).foldl red []) (by omega) (by omega) (by rw [hF.1 41 (by omega)]; exact Lt.fold wa.2.1.un Lt.nil) (by omega) (Rdd.fold _ _ Rdd.nil) hf hL hG hK
      exact ⟨rfl, _, _, rfl, ws', kw, hI'.up⟩
theorem p_times {a b t : Int} (h : IN N sz ar) (hN : N ≤ 1000) (ha : zr a) (hb : zr b) (ht : zr t) : zSem G mX6_times 3 [zR 0, zI a, zI b, zI t] (X sz ar) (zpi fun r u => ∃ sz1 ar1, u = X sz1 ar1 ∧ zSem G mX7_times 2 [zR 41, zI a, zI b, zI t] (X sz1 ar1) (LE r N)) := by
  obtain ⟨ws, kw, hI⟩ := h
  have en := hI.1.1
  refine zSem_wk (c_X6_times ha hb ht (hI.ck hN)) ?_
  rintro r u (⟨h1, rfl, rfl⟩ | ⟨h1, h2, rfl, sz1, ar1, rfl, hF⟩ | ⟨h1, h2, rfl, sz0, ar0, sz1, ar1, hF, rfl, hf, hL⟩)
  · refine ⟨sz, ar, rfl, zSem_wk (c_X7_times ha hb ht (hI.mk hN) hI.rd) ?_⟩
    rintro r u (⟨g1, rfl, rfl⟩ | ⟨g1, g2, g3⟩ | ⟨g1, g2, g3⟩)
    · exact ⟨rfl, _, _, rfl, hI.up2⟩
    · exfalso; omega
    · exfalso; omega
  · have hI1 := hI.fr hF.ce hF.me
    have e41 : sz1 41 = sz 41 := hF.1 41 (by omega)
    refine ⟨sz1, ar1, rfl, zSem_wk (c_X7_times ha hb ht (hI1.mk hN) hI1.rd) ?_⟩
    rw [e41]
    rintro r u (⟨g1, rfl, rfl⟩ | ⟨g1, g2, rfl, sz2, ar2, rfl, hG⟩ | ⟨g1, g2, rfl, g3⟩)
    · exfalso; omega
    · exact ⟨rfl, _, _, rfl, (hI1.fr hG.k.ce hG.k.me).up2⟩
    · exfalso; omega
  · have hI0 := hI.fr hF.ce hF.me
    have wa := (hI.2.2.1.2.2.2 a (by omega) (by omega))
    have wb := (hI.2.2.1.2.2.2 b (by omega) (by omega))
    have e41 : sz1 41 = sz 41 := (hf.1 41 (by omega)).trans (hF.1 41 (by omega))
    have ea : ∀ j, 40 < j → ar1 j = ar j := fun j hj => (hf.2 j (by omega)).trans (hF.2 j (by omega) (by omega) (by omega))
    have hM1 : MK ws sz1 ar1 := by
      have := hI.mk hN
      unfold MK at this ⊢
      rw [e41, ea 42 (by omega), ea 43 (by omega), ea 44 (by omega), ea 45 (by omega), ea 46 (by omega), ea 47 (by omega), ea 48 (by omega), ea 49 (by omega)]
      exact this
    refine ⟨sz1, ar1, rfl, zSem_wk (c_X7_times ha hb ht hM1 hI.rd) ?_⟩
    rw [e41]
    rintro r u (⟨g1, rfl, rfl⟩ | ⟨g1, g2, rfl, sz2, ar2, rfl, hG⟩ | ⟨g1, g2, rfl, sz3, ar3, ar4, hG, rfl, hK⟩)
    · exfalso; omega
    · exfalso; omega
    · obtain ⟨ws', hI'⟩ := hI0.wd (t := t) (xs := (ws b).foldl red (ws a)) (by omega) (by omega) (by rw [hF.1 41 (by omega)]; exact Lt.fold wb.2.1 wa.2.1) (by omega) (Rdd.fold _ _ wa.2.2.2) hf hL hG hK
      exact ⟨rfl, _, _, rfl, ws', kw, hI'.up⟩
theorem p_section {a b t : Int} (h : IN N sz ar) (hN : N ≤ 1000) (ha : zr a) (hb : zr b) (ht : zr t) : zSem G mX6_section 4 [zR 0, zI a, zI b, zI t] (X sz ar) (zpi fun r u => ∃ sz1 ar1, u = X sz1 ar1 ∧ zSem G mX7_section 3 [zR 41, zI a, zI b, zI t] (X sz1 ar1) (LE r N)) := by
  obtain ⟨ws, kw, hI⟩ := h
  have en := hI.1.1
  refine zSem_wk (c_X6_section ha hb ht (hI.ck hN)) ?_
  rintro r u (⟨h1, rfl, rfl⟩ | ⟨h1, h2, rfl, rfl⟩ | ⟨h1, h2, rfl, sz0, ar0, sz1, ar1, hF, rfl, hf, hL⟩)
  · refine ⟨sz, ar, rfl, zSem_wk (c_X7_section ha hb ht (hI.mk hN) hI.rd) ?_⟩
    rintro r u (⟨g1, rfl, rfl⟩ | ⟨g1, g2, rfl, g3⟩ | ⟨g1, g2, g3⟩)
    · exact ⟨rfl, _, _, rfl, hI.up2⟩
    · exfalso; omega
    · exfalso; omega
  · refine ⟨sz, ar, rfl, zSem_wk (c_X7_section ha hb ht (hI.mk hN) hI.rd) ?_⟩
    rintro r u (⟨g1, rfl, rfl⟩ | ⟨g1, g2, rfl, rfl⟩ | ⟨g1, g2, g3⟩)
    · exfalso; omega
    · exact ⟨rfl, _, _, rfl, hI.up2⟩
    · exfalso; omega
  · have hI0 := hI.fr hF.ce hF.me
    have wa := (hI.2.2.1.2.2.2 a (by omega) (by omega))
    have hso := sec_ok hI.1.2.2.2.1 wa.2.1 (b := b) (by omega) (by omega)
    have e41 : sz1 41 = sz 41 := (hf.1 41 (by omega)).trans (hF.1 41 (by omega))
    have ea : ∀ j, 40 < j → ar1 j = ar j := fun j hj => (hf.2 j (by omega)).trans (hF.2 j (by omega) (by omega) (by omega))
    have hM1 : MK ws sz1 ar1 := by
      have := hI.mk hN
      unfold MK at this ⊢
      rw [e41, ea 42 (by omega), ea 43 (by omega), ea 44 (by omega), ea 45 (by omega), ea 46 (by omega), ea 47 (by omega), ea 48 (by omega), ea 49 (by omega)]
      exact this
    refine ⟨sz1, ar1, rfl, zSem_wk (c_X7_section ha hb ht hM1 hI.rd) ?_⟩
    rw [e41, ea 42 (by omega), ea 43 (by omega)]
    rw [hI.1.2.1, hI.1.2.2.1] at hL
    rintro r u (⟨g1, rfl, rfl⟩ | ⟨g1, g2, rfl, rfl⟩ | ⟨g1, g2, rfl, sz3, ar3, ar4, hG, rfl, hK⟩)
    · exfalso; omega
    · exfalso; omega
    · obtain ⟨ws', hI'⟩ := hI0.wd (t := t) (xs := sec (ar 42) (ar 43) (ws a) b) (by omega) (by omega) (by rw [hF.1 41 (by omega)]; exact hso.1) (by omega) (Rdd.sc _ _) hf hL hG hK
      exact ⟨by rw [hI.1.2.1, hI.1.2.2.1], _, _, rfl, ws', kw, hI'.up⟩
theorem p_word {w : Int} (h : IN N sz ar) (hN : N ≤ 1000) (hw : zr w) : zSem G mX6_word 3 [zR 0, zI w] (X sz ar) (zpi fun r u => ∃ sz1 ar1, u = X sz1 ar1 ∧ zSem G mX7_word 2 [zR 41, zI w] (X sz1 ar1) (LE r N)) := by
  obtain ⟨ws, kw, hI⟩ := h
  have en := hI.1.1
  obtain ⟨b1, b2, b3, b4, b5⟩ := hI.2.1
  have hiw : isWd (sz 3 4) (sz 1 1) (ar 2) ↔ isWd (sz 41 0) (sz 41 10) (ar 49) := by rw [en, b1, b2]
  refine zSem_wk (c_X6_word hw (hI.ck hN)) ?_
  rintro r u (⟨h1, rfl, rfl⟩ | ⟨h1, h2, rfl, rfl⟩ | ⟨h1, h2, rfl, sz1, ar1, rfl, hL, hf⟩)
  · refine ⟨sz, ar, rfl, zSem_wk (c_X7_word hw (hI.mk hN)) ?_⟩
    rintro r u (⟨g1, rfl, rfl⟩ | ⟨g1, g2, rfl, g3⟩ | ⟨g1, g2, g3⟩)
    · exact ⟨rfl, _, _, rfl, hI.up2⟩
    · exfalso; omega
    · exfalso; omega
  · refine ⟨sz, ar, rfl, zSem_wk (c_X7_word hw (hI.mk hN)) ?_⟩
    rintro r u (⟨g1, rfl, rfl⟩ | ⟨g1, g2, rfl, rfl⟩ | ⟨g1, g2, g3⟩)
    · exfalso; omega
    · exact ⟨rfl, _, _, rfl, hI.up2⟩
    · exact absurd (hiw.mpr g2) h2
  · have e41 : (zz sz1 1 1 0) 41 = sz 41 := (zz_ne (by decide)).trans (hf.1 41 (by omega))
    have ea : ∀ j, 40 < j → ar1 j = ar j := fun j hj => hf.2 j (by omega)
    have hM1 : MK ws (zz sz1 1 1 0) ar1 := by
      have := hI.mk hN
      unfold MK at this ⊢
      rw [e41, ea 42 (by omega), ea 43 (by omega), ea 44 (by omega), ea 45 (by omega), ea 46 (by omega), ea 47 (by omega), ea 48 (by omega), ea 49 (by omega)]
      exact this
    refine ⟨_, _, rfl, zSem_wk (c_X7_word hw hM1) ?_⟩
    rw [e41, ea 49 (by omega)]
    rintro r u (⟨g1, rfl, rfl⟩ | ⟨g1, g2, rfl, rfl⟩ | ⟨g1, g2, rfl, sz3, ar3, ar4, hG, rfl, hK⟩)
    · exfalso; omega
    · exact absurd (hiw.mp h2) g2
    · have hwl := rdW_len (ar 49) (sz 41 10).toNat
      have hlt := rdW_Lt g2 (sz 41 10).toNat (by omega)
      have hp8 := g2.1
      have hk1 : (14 + 2 * w).toNat ≠ 1 ∧ (14 + 2 * w).toNat ≠ 41 := by omega
      obtain ⟨ws', hI'⟩ := hI.blank.wd (t := w) (xs := rdW (ar 49) (sz 41 10).toNat) (sz1 := zz (zz sz1 1 1 0) 41 10 0) (ar1 := ar1) (by omega) (by omega) hlt (by omega) (Rdd.rw _) ⟨fun j hj => by
          by_cases e : j = 41
          · subst e
            unfold zz
            rw [if_pos rfl, if_pos rfl, if_neg (by decide), if_neg (by decide), hf.1 41 (by omega)]
          · rw [zz_ne e, zz_ne e]
            by_cases e2 : j = 1
            · subst e2
              unfold zz
              rw [if_pos rfl, if_pos rfl, hf.1 1 hj]
            · rw [zz_ne e2, zz_ne e2]; exact hf.1 j hj, hf.2⟩ (by rw [zz_ne hk1.2, zz_ne hk1.1, ← b2, ← b1]; exact hL) hG hK
      exact ⟨by rw [b1, b2], _, _, rfl, ws', kw, hI'.up⟩
end ZPAIR2
