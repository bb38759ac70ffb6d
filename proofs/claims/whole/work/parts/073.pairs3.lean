/-! both change alike: states, what was seen, images -/
section ZPAIR3
variable {G : zG} {N : Int} {sz : zSz} {ar : zAr}
theorem p_aim {s b t : Int} (h : IN N sz ar) (hN : N ≤ 1000) (hs : zr s) (hb : zr b) (ht : zr t) : zSem G mX6_aim 2 [zR 0, zI s, zI b, zI t] (X sz ar) (zpi fun r u => ∃ sz1 ar1, u = X sz1 ar1 ∧ zSem G mX7_aim 2 [zR 41, zI s, zI b, zI t] (X sz1 ar1) (LE r N)) := by
  obtain ⟨ws, kw, hI⟩ := h
  have en := hI.1.1
  have hM := hI.1.2.2.2.1
  refine zSem_wk (c_X6_aim hs hb ht (hI.ck hN).1) ?_
  rintro r u (⟨h1, rfl, rfl⟩ | ⟨h1, h2, rfl, rfl⟩ | ⟨h1, h2, rfl, rfl⟩)
  · refine ⟨sz, ar, rfl, zSem_wk (c_X7_aim hs hb ht hM) ?_⟩
    rintro r u (⟨g1, rfl, rfl⟩ | ⟨g1, g2, rfl, rfl⟩ | ⟨g1, g2, g3⟩)
    · exact ⟨rfl, _, _, rfl, hI.up2⟩
    · exfalso; omega
    · exfalso; omega
  · refine ⟨sz, ar, rfl, zSem_wk (c_X7_aim hs hb ht hM) ?_⟩
    rintro r u (⟨g1, rfl, rfl⟩ | ⟨g1, g2, rfl, rfl⟩ | ⟨g1, g2, g3⟩)
    · exfalso; omega
    · exact ⟨rfl, _, _, rfl, hI.up2⟩
    · exfalso; omega
  · refine ⟨_, _, rfl, zSem_wk (c_X7_aim hs hb ht hM) ?_⟩
    rintro r u (⟨g1, rfl, rfl⟩ | ⟨g1, g2, rfl, rfl⟩ | ⟨g1, g2, rfl, rfl⟩)
    · exfalso; omega
    · exfalso; omega
    · refine ⟨by rw [hI.1.2.2.1]; rfl, _, _, rfl, ws, kw, ?_⟩
      obtain ⟨⟨a1, a2, a3, a4, a5⟩, hB, hW, hS, hC, hK⟩ := hI.up
      have hMn : MOK (sz 41 0) (ar 42) (zf (ar 43) (2 * s + b) t) := by
        refine ⟨a4.1, a4.2.1, a4.2.2.1, fun j x y => ?_⟩
        by_cases e : j = 2 * s + b
        · rw [e, zf_eq]; omega
        · rw [zf_ne e]; exact a4.2.2.2 j x y
      exact ⟨⟨a1, a2, by show zf (ar 5) (2 * s + b) t = zf (ar 43) (2 * s + b) t; rw [a3], hMn, a5⟩, hB, hW, hS, hC, hK⟩
theorem p_change {s k : Int} (h : IN N sz ar) (hN : N ≤ 1000) (hs : zr s) (hk : zr k) : zSem G mX6_change 2 [zR 0, zI s, zI k] (X sz ar) (zpi fun r u => ∃ sz1 ar1, u = X sz1 ar1 ∧ zSem G mX7_change 2 [zR 41, zI s, zI k] (X sz1 ar1) (LE r N)) := by
  obtain ⟨ws, kw, hI⟩ := h
  have en := hI.1.1
  have hM := hI.1.2.2.2.1
  refine zSem_wk (c_X6_change hs hk (hI.ck hN).1) ?_
  rintro r u (⟨h1, rfl, rfl⟩ | ⟨h1, h2, rfl, rfl⟩ | ⟨h1, h2, rfl, rfl⟩)
  · refine ⟨sz, ar, rfl, zSem_wk (c_X7_change hs hk hM) ?_⟩
    rintro r u (⟨g1, rfl, rfl⟩ | ⟨g1, g2, rfl, rfl⟩ | ⟨g1, g2, g3⟩)
    · exact ⟨rfl, _, _, rfl, hI.up2⟩
    · exfalso; omega
    · exfalso; omega
  · refine ⟨sz, ar, rfl, zSem_wk (c_X7_change hs hk hM) ?_⟩
    rintro r u (⟨g1, rfl, rfl⟩ | ⟨g1, g2, rfl, rfl⟩ | ⟨g1, g2, g3⟩)
    · exfalso; omega
    · exact ⟨rfl, _, _, rfl, hI.up2⟩
    · exfalso; omega
  · refine ⟨_, _, rfl, zSem_wk (c_X7_change hs hk hM) ?_⟩
    rintro r u (⟨g1, rfl, rfl⟩ | ⟨g1, g2, rfl, rfl⟩ | ⟨g1, g2, rfl, rfl⟩)
    · exfalso; omega
    · exfalso; omega
    · refine ⟨by rw [hI.1.2.1]; rfl, _, _, rfl, ws, kw, ?_⟩
      obtain ⟨⟨a1, a2, a3, a4, a5⟩, hB, hW, hS, hC, hK⟩ := hI.up
      have hMn : MOK (sz 41 0) (zf (ar 42) s k) (ar 43) := by
        refine ⟨a4.1, a4.2.1, fun j x y => ?_, a4.2.2.2⟩
        by_cases e : j = s
        · rw [e, zf_eq]; omega
        · rw [zf_ne e]; exact a4.2.2.1 j x y
      exact ⟨⟨a1, by show zf (ar 4) s k = zf (ar 42) s k; rw [a2], a3, hMn, a5⟩, hB, hW, hS, hC, hK⟩
theorem p_see {s q c : Int} (h : IN N sz ar) (hN : N ≤ 1000) (hs : zr s) (hq : zr q) (hc : c = 0 ∨ c = 1) : zSem G mX6_see 1 [zR 0, zI s, zI q, zI c] (X sz ar) (zpi fun r u => ∃ sz1 ar1, u = X sz1 ar1 ∧ zSem G mX7_see 2 [zR 41, zI s, zI q, zI c] (X sz1 ar1) (LE r N)) := by
  obtain ⟨ws, kw, hI⟩ := h
  have en := hI.1.1
  have hM := hI.1.2.2.2.1
  have hC := hI.ck hN
  obtain ⟨s1, s2, s3, s4, s5, s6, s7⟩ := hI.2.2.2.1
  refine zSem_wk (c_X6_see hs hq hc hC.1 hC.2.2.2.1.1 hC.2.2.2.1.2.1 hC.2.2.2.1.2.2) ?_
  rintro r u (⟨h1, rfl, rfl⟩ | ⟨h1, h2, rfl, rfl⟩ | ⟨h1, h2, h3, rfl, rfl⟩ | ⟨h1, h2, h3, rfl, rfl⟩)
  · refine ⟨sz, ar, rfl, zSem_wk (c_X7_see hs hq hc hM.1 hM.2.1 s2 s3) ?_⟩
    rintro r u (⟨g1, rfl, rfl⟩ | ⟨g1, g2, g3⟩ | ⟨g1, g2, g3⟩ | ⟨g1, g2, g3⟩)
    · exact ⟨rfl, _, _, rfl, hI.up2⟩
    all_goals (exfalso; omega)
  · refine ⟨sz, ar, rfl, zSem_wk (c_X7_see hs hq hc hM.1 hM.2.1 s2 s3) ?_⟩
    rintro r u (⟨g1, g3⟩ | ⟨g1, g2, rfl, rfl⟩ | ⟨g1, g2, g3⟩ | ⟨g1, g2, g3⟩)
    · exfalso; omega
    · exact ⟨rfl, _, _, rfl, hI.up2⟩
    all_goals (exfalso; omega)
  · refine ⟨sz, ar, rfl, zSem_wk (c_X7_see hs hq hc hM.1 hM.2.1 s2 s3) ?_⟩
    rintro r u (⟨g1, g3⟩ | ⟨g1, g2, g3⟩ | ⟨g1, g2, g3, rfl, rfl⟩ | ⟨g1, g2, g3, g4⟩)
    · exfalso; omega
    · exfalso; omega
    · exact ⟨rfl, _, _, rfl, hI.up2⟩
    · exfalso; omega
  · refine ⟨_, _, rfl, zSem_wk (c_X7_see hs hq hc hM.1 hM.2.1 s2 s3) ?_⟩
    have e416 : zz sz 27 1 (sz 27 1 + 1) 41 6 = sz 41 6 := rfl
    have e410 : zz sz 27 1 (sz 27 1 + 1) 41 0 = sz 41 0 := rfl
    rintro r u (⟨g1, g3⟩ | ⟨g1, g2, g3⟩ | ⟨g1, g2, g3, g4⟩ | ⟨g1, g2, g3, rfl, rfl⟩)
    · exfalso; omega
    · exfalso; omega
    · exfalso; omega
    · refine ⟨by rw [e416, s1], _, _, rfl, ws, kw, ?_⟩
      obtain ⟨hA, hB, hW, hS, hC, hK⟩ := hI.up
      refine ⟨hA, hB, hW, ⟨?_, ?_, ?_, ?_, ?_, ?_, ?_⟩, hC, hK⟩
      · show sz 27 1 + 1 = sz 41 6 + 1; omega
      · show 0 ≤ sz 41 6 + 1; omega
      · show sz 41 6 + 1 ≤ 6; omega
      · intro i
        show zr (zf (ar 46) (sz 41 6) s i)
        by_cases e : i = sz 41 6
        · rw [e, zf_eq]; exact hs
        · rw [zf_ne e]; exact s4 i
      · intro i
        show zr (zf (ar 47) (sz 41 6) q i)
        by_cases e : i = sz 41 6
        · rw [e, zf_eq]; exact hq
        · rw [zf_ne e]; exact s5 i
      · intro i
        show zf (ar 48) (sz 41 6) c i = 0 ∨ zf (ar 48) (sz 41 6) c i = 1
        by_cases e : i = sz 41 6
        · rw [e, zf_eq]; exact hc
        · rw [zf_ne e]; exact s6 i
      · intro x x0 x1
        show zf (ar 28) s (zand (ar 28 s) (msk q c)) x = srt (sz 41 6 + 1) (zf (ar 46) (sz 41 6) s) (zf (ar 47) (sz 41 6) q) (zf (ar 48) (sz 41 6) c) x 5
        rw [srt_s s2 (by omega) (by omega) hc]
        by_cases e : x = s
        · rw [if_pos e, e, zf_eq, s7 s (by omega) (by omega)]
        · rw [if_neg e, zf_ne e]; exact s7 x x0 x1
theorem p_forget (h : IN N sz ar) (hN : N ≤ 1000) : zSem G mX6_forget 1 [zR 0] (X sz ar) (zpi fun r u => ∃ sz1 ar1, u = X sz1 ar1 ∧ zSem G mX7_forget 0 [zR 41] (X sz1 ar1) (LE r N)) := by
  obtain ⟨ws, kw, hI⟩ := h
  refine zSem_wk c_X6_forget ?_
  rintro r u ⟨rfl, ar1, rfl, hF, h28⟩
  refine ⟨_, _, rfl, zSem_wk c_X7_forget ?_⟩
  rintro r u ⟨rfl, rfl⟩
  refine ⟨hI.2.2.2.1.1.symm, _, _, rfl, ws, kw, ?_⟩
  obtain ⟨hA, hB, hW, ⟨s1, s2, s3, s4, s5, s6, s7⟩, hC, hK⟩ := hI.up
  refine ⟨?_, ?_, ?_, ⟨rfl, ?_, ?_, ?_, ?_, ?_, ?_⟩, hC, ?_⟩
  · rw [hF 4 (by omega), hF 5 (by omega), hF 42 (by omega), hF 43 (by omega)]; exact hA
  · rw [hF 2 (by omega), hF 49 (by omega)]; exact hB
  · rw [hF 15 (by omega), hF 17 (by omega), hF 19 (by omega), hF 44 (by omega), hF 45 (by omega)]; exact hW
  · show (0 : Int) ≤ 0; omega
  · show (0 : Int) ≤ 6; omega
  · rw [hF 46 (by omega)]; exact s4
  · rw [hF 47 (by omega)]; exact s5
  · rw [hF 48 (by omega)]; exact s6
  · intro x x0 x1
    show ar1 28 x = srt 0 (ar1 46) (ar1 47) (ar1 48) x 5
    rw [srt_0]; exact h28 x x0 x1
  · unfold KK
    rw [hF 9 (by omega), hF 10 (by omega), hF 54 (by omega), hF 55 (by omega), hF 56 (by omega), hF 57 (by omega), hF 58 (by omega), hF 59 (by omega), hF 60 (by omega), hF 22 (by omega), hF 24 (by omega), hF 26 (by omega), hF 30 (by omega)]
    exact hK
theorem zcp_in {f g : Int → Int} {n j : Int} (h0 : 0 ≤ j) (h1 : j < n) : zcp f g 0 0 n j = f j := by
  unfold zcp
  rw [if_pos (by omega), show (0 : Int) + (j - 0) = j by omega]
theorem zcp_all {P : Int → Prop} {f g : Int → Int} {n : Int} (hf : ∀ i, P (f i)) (hg : ∀ i, P (g i)) (i : Int) : P (zcp f g 0 0 n i) := by
  unfold zcp
  split
  · exact hf _
  · exact hg _
theorem MOK_cp {n : Int} {kd nx k0 n0 : Int → Int} (h : MOK n kd nx) : MOK n (zcp kd k0 0 0 6) (zcp nx n0 0 0 12) := by
  have h6 := h.2.1
  refine ⟨h.1, h.2.1, fun s a b => ?_, fun j a b => ?_⟩
  · rw [zcp_in a (by omega)]; exact h.2.2.1 s a b
  · rw [zcp_in a (by omega)]; exact h.2.2.2 j a b
theorem LR_cp {f g : Int → Int} {l lg : Int → Int} {w : Int} {xs : List Int} (h0 : 0 ≤ w) (h1 : w < 3) (h : LR (l w) (fun k => f (16 * w + k)) xs) (hl : xs.length ≤ 16) : LR (zcp l lg 0 0 3 w) (fun k => zcp f g 0 0 48 (16 * w + k)) xs := by
  refine ⟨by rw [zcp_in h0 h1]; exact h.1, fun i hi => ?_⟩
  show zcp f g 0 0 48 (16 * w + i) = _
  rw [zcp_in (by omega) (by omega)]
  exact h.2 i hi
theorem p_image (h : IN N sz ar) (hN : N ≤ 1000) : zSem G mX6_image 3 [zR 0] (X sz ar) (zpi fun r u => ∃ sz1 ar1, u = X sz1 ar1 ∧ zSem G mX7_image 1 [zR 41] (X sz1 ar1) (LE r N)) := by
  obtain ⟨ws, kw, hI⟩ := h
  have hM := hI.1.2.2.2.1
  have hn := hM.1
  have hn6 := hM.2.1
  have en := hI.1.1
  refine zSem_wk (c_X6_image (hI.ck hN)) ?_
  rintro r u (⟨h1, rfl, rfl⟩ | ⟨h1, rfl, sz1, ar1, rfl, i1, i2, i3, i4, i5, i6, i7, i8, i9, i10, i11, i12⟩)
  · refine ⟨sz, ar, rfl, zSem_wk (c_X7_image ⟨by omega, by omega⟩ hI.2.2.2.1.2.2.2.2.2.1) ?_⟩
    rintro r u (⟨g1, rfl, rfl⟩ | ⟨g1, g2⟩)
    · exact ⟨rfl, _, _, rfl, hI.up2⟩
    · exfalso; omega
  · have e41 : sz1 41 = sz 41 := i11 41 (by omega) (by omega) (by omega) (by omega) (by omega) (by omega)
    have ea : ∀ j, 30 < j → ar1 j = ar j := fun j hj => i12 j (by omega) (by omega) (by omega) (by omega) (by omega) (by omega)
    refine ⟨sz1, ar1, rfl, zSem_wk (c_X7_image (by rw [e41]; exact ⟨by omega, by omega⟩) (by rw [ea 48 (by omega)]; exact hI.2.2.2.1.2.2.2.2.2.1)) ?_⟩
    unfold PIr
    rw [e41, ea 42 (by omega), ea 43 (by omega), ea 44 (by omega), ea 45 (by omega), ea 46 (by omega), ea 47 (by omega), ea 48 (by omega), ea 54 (by omega), ea 55 (by omega), ea 56 (by omega), ea 57 (by omega), ea 58 (by omega), ea 59 (by omega), ea 60 (by omega)]
    rintro r u (⟨g1, rfl, rfl⟩ | ⟨g1, rfl, sz2, ar2, rfl, j1, j2, j3, j4, j5, j6, j7, j8, j9, j10, j11, j12, j13⟩)
    · exfalso; omega
    · refine ⟨en.symm, sz2, ar2, rfl, ws, ws, ?_⟩
      obtain ⟨⟨a1, a2, a3, a4, a5⟩, ⟨b1, b2, b3, b4, b5⟩, ⟨w0, w1, w2, w3⟩, ⟨s1, s2, s3, s4, s5, s6, s7⟩, ⟨c1, c2, c3, c4, c5, c6⟩, ⟨k1, k2, k3, k4, k5, k6⟩⟩ := hI
      have es : ∀ j, j < 31 → j ≠ 0 → j ≠ 8 → j ≠ 29 → j ≠ 21 → j ≠ 23 → j ≠ 25 → sz2 j = sz j := fun j x a b c d e f => (j11 j (by omega)).trans (i11 j a b c d e f)
      have ec : ∀ j, j < 31 → j ≠ 9 → j ≠ 10 → j ≠ 30 → j ≠ 22 → j ≠ 24 → j ≠ 26 → ar2 j = ar j := fun j x a b c d e f => (j13 j (by omega)).trans (i12 j a b c d e f)
      have em : ∀ i, i ≠ 19 → i ≠ 20 → i ≠ 21 → sz2 41 i = sz 41 i := fun i a b c => j12 i a b c
      have er : ∀ j, 41 < j → j < 50 → ar2 j = ar j := fun j a b => (j13 j (by omega)).trans (ea j (by omega))
      have h3 := a5 (by omega)
      refine ⟨⟨?_, ?_, ?_, ?_, ?_⟩, ⟨?_, ?_, ?_, ?_, ?_⟩, ⟨?_, ?_, ?_, ?_⟩, ⟨?_, ?_, ?_, ?_, ?_, ?_, ?_⟩, ⟨?_, ?_, ?_, ?_, ?_, ?_⟩, ⟨?_, ?_, ?_, ?_, ?_, fun _ => ⟨?_, ?_, ?_, ?_, ?_, ?_, fun w x y => ⟨?_, ?_, ?_, ?_⟩, ?_, ?_, ?_, fun s x y => ?_⟩⟩⟩
      · rw [es 3 (by omega) (by omega) (by omega) (by omega) (by omega) (by omega) (by omega), em 0 (by omega) (by omega) (by omega)]; exact a1
      · rw [ec 4 (by omega) (by omega) (by omega) (by omega) (by omega) (by omega) (by omega), er 42 (by omega) (by omega)]; exact a2
      · rw [ec 5 (by omega) (by omega) (by omega) (by omega) (by omega) (by omega) (by omega), er 43 (by omega) (by omega)]; exact a3
      · rw [em 0 (by omega) (by omega) (by omega), er 42 (by omega) (by omega), er 43 (by omega) (by omega)]; exact a4
      · rw [em 0 (by omega) (by omega) (by omega), em 3 (by omega) (by omega) (by omega)]; exact a5
      · rw [es 1 (by omega) (by omega) (by omega) (by omega) (by omega) (by omega) (by omega), em 10 (by omega) (by omega) (by omega)]; exact b1
      · rw [ec 2 (by omega) (by omega) (by omega) (by omega) (by omega) (by omega) (by omega), er 49 (by omega) (by omega)]; exact b2
      · rw [em 10 (by omega) (by omega) (by omega)]; exact b3
      · rw [em 10 (by omega) (by omega) (by omega)]; exact b4
      · rw [er 49 (by omega) (by omega)]; exact b5
      · rw [es 14 (by omega) (by omega) (by omega) (by omega) (by omega) (by omega) (by omega), ec 15 (by omega) (by omega) (by omega) (by omega) (by omega) (by omega) (by omega)]; exact w0
      · rw [es 16 (by omega) (by omega) (by omega) (by omega) (by omega) (by omega) (by omega), ec 17 (by omega) (by omega) (by omega) (by omega) (by omega) (by omega) (by omega)]; exact w1
      · rw [es 18 (by omega) (by omega) (by omega) (by omega) (by omega) (by omega) (by omega), ec 19 (by omega) (by omega) (by omega) (by omega) (by omega) (by omega) (by omega)]; exact w2
      · rw [em 0 (by omega) (by omega) (by omega), er 44 (by omega) (by omega), er 45 (by omega) (by omega)]; exact w3
      · rw [es 27 (by omega) (by omega) (by omega) (by omega) (by omega) (by omega) (by omega), em 6 (by omega) (by omega) (by omega)]; exact s1
      · rw [em 6 (by omega) (by omega) (by omega)]; exact s2
      · rw [em 6 (by omega) (by omega) (by omega)]; exact s3
      · rw [er 46 (by omega) (by omega)]; exact s4
      · rw [er 47 (by omega) (by omega)]; exact s5
      · rw [er 48 (by omega) (by omega)]; exact s6
      · rw [em 6 (by omega) (by omega) (by omega), er 46 (by omega) (by omega), er 47 (by omega) (by omega), er 48 (by omega) (by omega), ec 28 (by omega) (by omega) (by omega) (by omega) (by omega) (by omega) (by omega)]; exact s7
      · rw [j11 0 (by omega), i10, em 3 (by omega) (by omega) (by omega)]; exact c1
      · rw [j1]; omega
      · rw [j1, em 3 (by omega) (by omega) (by omega)]; omega
      · rw [em 3 (by omega) (by omega) (by omega)]; omega
      · rw [j11 0 (by omega), i9]; exact Or.inr rfl
      · rw [j11 0 (by omega), i9, j1, em 3 (by omega) (by omega) (by omega)]; omega
      · rw [j13 9 (by omega), j4, i2, a2, k1]
      · rw [j13 10 (by omega), j5, i3, a3, k2]
      · rw [j8]; exact zcp_all s4 k3
      · rw [j9]; exact zcp_all s5 k4
      · rw [j10]; exact zcp_all (P := fun x => x = 0 ∨ x = 1) s6 k5
      · rw [j11 8 (by omega), i1, j2]; exact a1
      · rw [j2, j4, j5]; exact MOK_cp a4
      · rw [j2]; omega
      · rw [j11 21 (by omega), j13 22 (by omega)]; exact i6
      · rw [j11 23 (by omega), j13 24 (by omega)]; exact i7
      · rw [j11 25 (by omega), j13 26 (by omega)]; exact i8
      · rw [j6, j7]; exact LR_cp x y (w3 w x y).1 (w3 w x y).2.2.1
      · rw [j2]; exact (w3 w x y).2.1
      · exact (w3 w x y).2.2.1
      · exact (w3 w x y).2.2.2
      · rw [j11 29 (by omega), i4, j3]; exact s1
      · rw [j3]; exact s2
      · rw [j3]; exact s3
      · rw [j3, j8, j9, j10, j13 30 (by omega), i5, zcp_in x y, s7 s x y]
        exact (srt_congr 5 (fun n a b => ⟨zcp_in a (by omega), zcp_in a (by omega), zcp_in a (by omega)⟩)).symm
theorem p_restore (h : IN N sz ar) (hN : N ≤ 1000) : zSem G mX6_restore 3 [zR 0] (X sz ar) (zpi fun r u => ∃ sz1 ar1, u = X sz1 ar1 ∧ zSem G mX7_restore 1 [zR 41] (X sz1 ar1) (LE r N)) := by
  obtain ⟨ws, kw, hI⟩ := h
  obtain ⟨c1, c2, c3, c4, c5, c6⟩ := hI.2.2.2.2.1
  obtain ⟨k1, k2, k3, k4, k5, k6⟩ := hI.2.2.2.2.2
  refine zSem_wk (c_X6_restore (ks := kw) c5 (fun z => ⟨(k6 z).2.2.2.1, ((k6 z).2.2.2.2.2.2.1 0 (by omega) (by omega)).2.2.1⟩) (fun z => ⟨(k6 z).2.2.2.2.1, ((k6 z).2.2.2.2.2.2.1 1 (by omega) (by omega)).2.2.1⟩) (fun z => ⟨(k6 z).2.2.2.2.2.1, ((k6 z).2.2.2.2.2.2.1 2 (by omega) (by omega)).2.2.1⟩)) ?_
  rintro r u (⟨h1, rfl, rfl⟩ | ⟨h1, rfl, sz1, ar1, rfl, i1, i2, i3, i4, i5, i6, i7, i8, i9, i10⟩)
  · refine ⟨sz, ar, rfl, zSem_wk (c_X7_restore ⟨by omega, by omega⟩ ⟨by omega, by omega⟩ k5) ?_⟩
    rintro r u (⟨g1, rfl, rfl⟩ | ⟨g1, g2⟩)
    · exact ⟨rfl, _, _, rfl, hI.up2⟩
    · exfalso; omega
  · obtain ⟨q1, q2, q3, q4, q5, q6, q7, q8, q9, q10, q11⟩ := k6 h1
    have e41 : sz1 41 = sz 41 := i9 41 (by omega) (by omega) (by omega) (by omega) (by omega)
    have ea : ∀ j, 28 < j → ar1 j = ar j := fun j hj => i10 j (by omega) (by omega) (by omega) (by omega) (by omega) (by omega)
    refine ⟨sz1, ar1, rfl, zSem_wk (c_X7_restore (by rw [e41]; exact ⟨by omega, by omega⟩) (by rw [e41]; exact ⟨by omega, by omega⟩) (by rw [ea 60 (by omega)]; exact k5)) ?_⟩
    unfold PRr
    rw [e41, ea 42 (by omega), ea 43 (by omega), ea 44 (by omega), ea 45 (by omega), ea 46 (by omega), ea 47 (by omega), ea 48 (by omega), ea 54 (by omega), ea 55 (by omega), ea 56 (by omega), ea 57 (by omega), ea 58 (by omega), ea 59 (by omega), ea 60 (by omega)]
    rintro r u (⟨g1, rfl, rfl⟩ | ⟨g1, rfl, sz2, ar2, rfl, j1, j2, j4, j5, j6, j7, j8, j9, j10, j11, j12, j13⟩)
    · exfalso; omega
    · refine ⟨q1.symm, sz2, ar2, rfl, kw, kw, ?_⟩
      obtain ⟨⟨a1, a2, a3, a4, a5⟩, ⟨b1, b2, b3, b4, b5⟩, ⟨w0, w1, w2, w3⟩, ⟨s1, s2, s3, s4, s5, s6, s7⟩, hCC, hKK⟩ := hI
      have es : ∀ j, j < 31 → j ≠ 3 → j ≠ 27 → j ≠ 14 → j ≠ 16 → j ≠ 18 → sz2 j = sz j := fun j x a b c d e => (j11 j (by omega)).trans (i9 j a b c d e)
      have ec : ∀ j, j < 31 → j ≠ 4 → j ≠ 5 → j ≠ 28 → j ≠ 15 → j ≠ 17 → j ≠ 19 → ar2 j = ar j := fun j x a b c d e f => (j13 j (by omega)).trans (i10 j a b c d e f)
      have em : ∀ i, i ≠ 0 → i ≠ 6 → sz2 41 i = sz 41 i := fun i a b => j12 i a b
      have er : ∀ j, 48 < j → ar2 j = ar j := fun j a => (j13 j (by omega)).trans (ea j (by omega))
      refine ⟨⟨?_, ?_, ?_, ?_, ?_⟩, ⟨?_, ?_, ?_, ?_, ?_⟩, ⟨?_, ?_, ?_, fun w x y => ⟨?_, ?_, ?_, ?_⟩⟩, ⟨?_, ?_, ?_, ?_, ?_, ?_, fun s x y => ?_⟩, ?_, ?_⟩
      · rw [j11 3 (by omega), i1, j1]; exact q1
      · rw [j13 4 (by omega), i2, j4, k1, a2]
      · rw [j13 5 (by omega), i3, j5, k2, a3]
      · rw [j1, j4, j5]; exact MOK_cp q2
      · rw [em 3 (by omega) (by omega)]; intro _; omega
      · rw [es 1 (by omega) (by omega) (by omega) (by omega) (by omega) (by omega), em 10 (by omega) (by omega)]; exact b1
      · rw [ec 2 (by omega) (by omega) (by omega) (by omega) (by omega) (by omega) (by omega), er 49 (by omega)]; exact b2
      · rw [em 10 (by omega) (by omega)]; exact b3
      · rw [em 10 (by omega) (by omega)]; exact b4
      · rw [er 49 (by omega)]; exact b5
      · rw [j11 14 (by omega), j13 15 (by omega)]; exact i6
      · rw [j11 16 (by omega), j13 17 (by omega)]; exact i7
      · rw [j11 18 (by omega), j13 19 (by omega)]; exact i8
      · rw [j6, j7]; exact LR_cp x y (q7 w x y).1 (q7 w x y).2.2.1
      · rw [j1]; exact (q7 w x y).2.1
      · exact (q7 w x y).2.2.1
      · exact (q7 w x y).2.2.2
      · rw [j11 27 (by omega), i4, j2]; exact q8
      · rw [j2]; exact q9
      · rw [j2]; exact q10
      · rw [j8]; exact zcp_all k3 s4
      · rw [j9]; exact zcp_all k4 s5
      · rw [j10]; exact zcp_all (P := fun x => x = 0 ∨ x = 1) k5 s6
      · rw [j2, j8, j9, j10, j13 28 (by omega), i5, zcp_in x y, q11 s x y]
        exact (srt_congr 5 (fun n a b => ⟨zcp_in a (by omega), zcp_in a (by omega), zcp_in a (by omega)⟩)).symm
      · rw [es 0 (by omega) (by omega) (by omega) (by omega) (by omega) (by omega), em 3 (by omega) (by omega), em 19 (by omega) (by omega)]; exact ⟨c1, c2, c3, by omega, c5, c6⟩
      · unfold KK
        rw [es 0 (by omega) (by omega) (by omega) (by omega) (by omega) (by omega), es 8 (by omega) (by omega) (by omega) (by omega) (by omega) (by omega), es 21 (by omega) (by omega) (by omega) (by omega) (by omega) (by omega), es 23 (by omega) (by omega) (by omega) (by omega) (by omega) (by omega), es 25 (by omega) (by omega) (by omega) (by omega) (by omega) (by omega), es 29 (by omega) (by omega) (by omega) (by omega) (by omega) (by omega), em 20 (by omega) (by omega), em 21 (by omega) (by omega), er 54 (by omega), er 55 (by omega), er 56 (by omega), er 57 (by omega), er 58 (by omega), er 59 (by omega), er 60 (by omega)]
        rw [ec 9 (by omega) (by omega) (by omega) (by omega) (by omega) (by omega) (by omega), ec 10 (by omega) (by omega) (by omega) (by omega) (by omega) (by omega) (by omega), ec 22 (by omega) (by omega) (by omega) (by omega) (by omega) (by omega) (by omega), ec 24 (by omega) (by omega) (by omega) (by omega) (by omega) (by omega) (by omega), ec 26 (by omega) (by omega) (by omega) (by omega) (by omega) (by omega) (by omega), ec 30 (by omega) (by omega) (by omega) (by omega) (by omega) (by omega) (by omega)]
        exact hKK
end ZPAIR3
