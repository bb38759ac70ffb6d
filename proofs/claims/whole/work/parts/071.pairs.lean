/-! one state of both -/
def KK (kw : Int → List Int) (sz : zSz) (ar : zAr) : Prop :=
  sz 8 4 = sz 41 20 ∧ MOK (sz 41 20) (ar 54) (ar 55) ∧ sz 41 20 ≠ 0 ∧ LR (sz 21 1) (ar 22) (kw 0) ∧ LR (sz 23 1) (ar 24) (kw 1) ∧ LR (sz 25 1) (ar 26) (kw 2) ∧
  (∀ w : Int, 0 ≤ w → w < 3 → LR (ar 56 w) (fun k => ar 57 (16 * w + k)) (kw w) ∧ Lt (sz 41 20) (kw w) ∧ (kw w).length ≤ 16 ∧ Rdd (kw w)) ∧
  sz 29 1 = sz 41 21 ∧ 0 ≤ sz 41 21 ∧ sz 41 21 ≤ 6 ∧ ∀ s : Int, 0 ≤ s → s < 6 → ar 30 s = srt (sz 41 21) (ar 58) (ar 59) (ar 60) s 5
def INV (N : Int) (ws kw : Int → List Int) (sz : zSz) (ar : zAr) : Prop :=
  (sz 3 4 = sz 41 0 ∧ ar 4 = ar 42 ∧ ar 5 = ar 43 ∧ MOK (sz 41 0) (ar 42) (ar 43) ∧ (sz 41 0 ≠ 0 → 1 ≤ sz 41 3)) ∧
  (sz 1 1 = sz 41 10 ∧ ar 2 = ar 49 ∧ 0 ≤ sz 41 10 ∧ sz 41 10 ≤ 24 ∧ ∀ i, 0 ≤ ar 49 i ∧ ar 49 i ≤ 126) ∧
  (LR (sz 14 1) (ar 15) (ws 0) ∧ LR (sz 16 1) (ar 17) (ws 1) ∧ LR (sz 18 1) (ar 19) (ws 2) ∧ ∀ w : Int, 0 ≤ w → w < 3 → LR (ar 44 w) (fun k => ar 45 (16 * w + k)) (ws w) ∧ Lt (sz 41 0) (ws w) ∧ (ws w).length ≤ 16 ∧ Rdd (ws w)) ∧
  (sz 27 1 = sz 41 6 ∧ 0 ≤ sz 41 6 ∧ sz 41 6 ≤ 6 ∧ (∀ i, zr (ar 46 i)) ∧ (∀ i, zr (ar 47 i)) ∧ (∀ i, ar 48 i = 0 ∨ ar 48 i = 1) ∧ ∀ s : Int, 0 ≤ s → s < 6 → ar 28 s = srt (sz 41 6) (ar 46) (ar 47) (ar 48) s 5) ∧
  (sz 0 11 = sz 41 3 ∧ 0 ≤ sz 41 19 ∧ sz 41 19 ≤ sz 41 3 ∧ sz 41 3 ≤ N ∧ (sz 0 10 = 0 ∨ sz 0 10 = 1) ∧ (sz 0 10 = 1 ↔ ¬ (sz 41 19 = 0 ∨ sz 41 19 ≠ sz 41 3))) ∧
  (ar 9 = ar 54 ∧ ar 10 = ar 55 ∧ (∀ i, zr (ar 58 i)) ∧ (∀ i, zr (ar 59 i)) ∧ (∀ i, ar 60 i = 0 ∨ ar 60 i = 1) ∧ (sz 0 10 = 1 → KK kw sz ar))
def IN (N : Int) (sz : zSz) (ar : zAr) : Prop := ∃ ws kw, INV N ws kw sz ar
theorem INV.up {N : Int} {ws kw : Int → List Int} {sz : zSz} {ar : zAr} (h : INV N ws kw sz ar) : INV (N + 1) ws kw sz ar := by
  obtain ⟨hA, hB, hW, hS, ⟨c1, c2, c3, c4, c5⟩, hK⟩ := h
  exact ⟨hA, hB, hW, hS, ⟨c1, c2, c3, by omega, c5⟩, hK⟩
theorem INV.up2 {N : Int} {ws kw : Int → List Int} {sz : zSz} {ar : zAr} (h : INV N ws kw sz ar) : IN (N + 1) sz ar := ⟨ws, kw, h.up⟩
theorem w012 {w : Int} (h0 : 0 ≤ w) (h1 : w < 3) : w = 0 ∨ w = 1 ∨ w = 2 := by omega
theorem INV.ck {N : Int} {ws kw : Int → List Int} {sz : zSz} {ar : zAr} (h : INV N ws kw sz ar) (hN : N ≤ 1000) : CK ws sz ar := by
  obtain ⟨⟨a1, a2, a3, a4, a5⟩, ⟨b1, b2, b3, b4, b5⟩, ⟨w0, w1, w2, w3⟩, ⟨s1, s2, s3, s4, s5, s6, s7⟩, ⟨c1, c2, c3, c4, c5⟩, hK⟩ := h
  unfold CK
  rw [a1, a2, a3, b1, b2, s1, c1]
  refine ⟨a4, ⟨b3, b4, fun i => ⟨by have := b5 i; omega, by have := b5 i; omega⟩⟩, fun w h0 h1 => ?_, ⟨s2, s3, fun s h0 h1 => ?_⟩, ⟨by omega, by omega⟩⟩
  · have := w3 w h0 h1
    refine ⟨?_, this.2.1, this.2.2.1⟩
    rcases w012 h0 h1 with rfl | rfl | rfl
    · exact w0
    · exact w1
    · exact w2
  · rw [s7 s h0 h1]; exact srt_r _ _ _ _ s 5
theorem INV.mk {N : Int} {ws kw : Int → List Int} {sz : zSz} {ar : zAr} (h : INV N ws kw sz ar) (hN : N ≤ 1000) : MK ws sz ar := by
  obtain ⟨⟨a1, a2, a3, a4, a5⟩, ⟨b1, b2, b3, b4, b5⟩, ⟨w0, w1, w2, w3⟩, ⟨s1, s2, s3, s4, s5, s6, s7⟩, ⟨c1, c2, c3, c4, c5⟩, hK⟩ := h
  exact ⟨a4, ⟨b3, b4, b5⟩, fun w h0 h1 => ⟨(w3 w h0 h1).1, (w3 w h0 h1).2.1, (w3 w h0 h1).2.2.1⟩, ⟨s2, s3, s4, s5, s6⟩, ⟨by omega, by omega⟩, ⟨by omega, by omega⟩⟩
theorem INV.rd {N : Int} {ws kw : Int → List Int} {sz : zSz} {ar : zAr} (h : INV N ws kw sz ar) : RD ws := fun w h0 h1 => (h.2.2.1.2.2.2 w h0 h1).2.2.2.sm
/-- what is seen of the class has not changed; of the reference -/
def CE (sz : zSz) (ar : zAr) (sz' : zSz) (ar' : zAr) : Prop := (∀ j, j < 31 → sz' j = sz j) ∧ ∀ j, j < 32 → j ≠ 6 → j ≠ 7 → ar' j = ar j
def ME (sz : zSz) (ar : zAr) (sz' : zSz) (ar' : zAr) : Prop := (∀ i, i ≠ 12 → i ≠ 14 → i ≠ 17 → i ≠ 29 → sz' 41 i = sz 41 i) ∧ ∀ j, (41 < j ∧ j < 50) ∨ 53 < j → ar' j = ar j
theorem Fg.ce {sz sz' : zSz} {ar ar' : zAr} (h : Fg sz ar sz' ar') : CE sz ar sz' ar' := ⟨fun j a => h.1 j (by omega), fun j a b c => h.2 j b c (by omega)⟩
theorem Fg.me {sz sz' : zSz} {ar ar' : zAr} (h : Fg sz ar sz' ar') : ME sz ar sz' ar' := ⟨fun i _ _ _ _ => by rw [h.1 41 (by omega)], fun j a => h.2 j (by omega) (by omega) (by omega)⟩
theorem Mh.ce {sz sz' : zSz} {ar ar' : zAr} (h : Mh sz ar sz' ar') : CE sz ar sz' ar' := ⟨fun j a => h.1 j (by omega), fun j a _ _ => h.2.2 j (by omega)⟩
theorem Mh.me {sz sz' : zSz} {ar ar' : zAr} (h : Mh sz ar sz' ar') : ME sz ar sz' ar' := ⟨h.2.1, fun j a => h.2.2 j (by omega)⟩
theorem INV.fr {N : Int} {ws kw : Int → List Int} {sz sz' : zSz} {ar ar' : zAr} (h : INV N ws kw sz ar) (hc : CE sz ar sz' ar') (hm : ME sz ar sz' ar') : INV N ws kw sz' ar' := by
  unfold INV KK
  rw [hc.1 3 (by omega), hc.1 1 (by omega), hc.1 14 (by omega), hc.1 16 (by omega), hc.1 18 (by omega), hc.1 27 (by omega), hc.1 0 (by omega), hc.1 8 (by omega), hc.1 21 (by omega), hc.1 23 (by omega), hc.1 25 (by omega), hc.1 29 (by omega),
    hm.1 0 (by omega) (by omega) (by omega) (by omega), hm.1 3 (by omega) (by omega) (by omega) (by omega), hm.1 6 (by omega) (by omega) (by omega) (by omega), hm.1 10 (by omega) (by omega) (by omega) (by omega), hm.1 19 (by omega) (by omega) (by omega) (by omega), hm.1 20 (by omega) (by omega) (by omega) (by omega), hm.1 21 (by omega) (by omega) (by omega) (by omega),
    hc.2 4 (by omega) (by omega) (by omega), hc.2 5 (by omega) (by omega) (by omega), hc.2 2 (by omega) (by omega) (by omega), hc.2 15 (by omega) (by omega) (by omega), hc.2 17 (by omega) (by omega) (by omega), hc.2 19 (by omega) (by omega) (by omega), hc.2 28 (by omega) (by omega) (by omega), hc.2 9 (by omega) (by omega) (by omega), hc.2 10 (by omega) (by omega) (by omega), hc.2 22 (by omega) (by omega) (by omega), hc.2 24 (by omega) (by omega) (by omega), hc.2 26 (by omega) (by omega) (by omega), hc.2 30 (by omega) (by omega) (by omega),
    hm.2 42 (by omega), hm.2 43 (by omega), hm.2 44 (by omega), hm.2 45 (by omega), hm.2 46 (by omega), hm.2 47 (by omega), hm.2 48 (by omega), hm.2 49 (by omega), hm.2 54 (by omega), hm.2 55 (by omega), hm.2 56 (by omega), hm.2 57 (by omega), hm.2 58 (by omega), hm.2 59 (by omega), hm.2 60 (by omega)]
  exact h
/-- the reference answers the same, and both stand alike again -/
def LE (r N : Int) : Option zV → zS → Prop := zpi fun r2 u2 => r2 = r ∧ ∃ sz2 ar2, u2 = X sz2 ar2 ∧ IN (N + 1) sz2 ar2
def LEl (r N : Int) : Option zV → zS → Prop := zpl fun r2 u2 => r2 = r ∧ ∃ sz2 ar2, u2 = X sz2 ar2 ∧ IN (N + 1) sz2 ar2
section ZPAIR
variable {G : zG} {N : Int} {sz : zSz} {ar : zAr}
theorem p_fault (h : IN N sz ar) (hN : N ≤ 1000) : zSem G mX6_fault 7 [zR 0] (X sz ar) (zpi fun r u => ∃ sz1 ar1, u = X sz1 ar1 ∧ zSem G mX7_fault 2 [zR 41] (X sz1 ar1) (LE r N)) := by
  obtain ⟨ws, kw, hI⟩ := h
  have hC := hI.ck hN
  have hM := hI.mk hN
  refine zSem_wk (c_X6_fault hC.2.1.1 hC.2.1.2.1 hC.2.1.2.2) ?_
  rintro r u ⟨rfl, rfl⟩
  refine ⟨sz, ar, rfl, zSem_wk (c_X7_fault hM.2.1.1 hM.2.1.2.1 hM.2.1.2.2) ?_⟩
  rintro r u ⟨rfl, rfl⟩
  exact ⟨by rw [hI.2.1.1, hI.2.1.2.1], _, _, rfl, hI.up2⟩
theorem p_as {s k : Int} (h : IN N sz ar) (hN : N ≤ 1000) (hs : zr s) (hk : zr k) : zSem G mX6_as 2 [zR 0, zI s, zI k] (X sz ar) (zpi fun r u => ∃ sz1 ar1, u = X sz1 ar1 ∧ zSem G mX7_as 2 [zR 41, zI s, zI k] (X sz1 ar1) (LE r N)) := by
  obtain ⟨ws, kw, hI⟩ := h
  refine zSem_wk (c_X6_as hs hk (hI.ck hN).1) ?_
  rintro r u ⟨rfl, rfl⟩
  refine ⟨sz, ar, rfl, zSem_wk (c_X7_as hs hk (hI.mk hN).1) ?_⟩
  rintro r u ⟨rfl, rfl⟩
  exact ⟨by rw [hI.1.1, hI.1.2.1], _, _, rfl, hI.up2⟩
theorem p_sign {w p : Int} (h : IN N sz ar) (hN : N ≤ 1000) (hw : zr w) (hp : zr p) : zSem G mX6_sign 2 [zR 0, zI w, zI p] (X sz ar) (zpi fun r u => ∃ sz1 ar1, u = X sz1 ar1 ∧ zSem G mX7_sign 1 [zR 41, zI w, zI p] (X sz1 ar1) (LE r N)) := by
  obtain ⟨ws, kw, hI⟩ := h
  refine zSem_wk (c_X6_sign hw hp (hI.ck hN)) ?_
  rintro r u ⟨rfl, rfl⟩
  refine ⟨sz, ar, rfl, zSem_wk (c_X7_sign hw hp (hI.mk hN)) ?_⟩
  rintro r u ⟨rfl, rfl⟩
  exact ⟨rfl, _, _, rfl, hI.up2⟩
theorem p_act {w x n : Int} (h : IN N sz ar) (hN : N ≤ 1000) (hw : zr w) (hx : zr x) (hn : zr n) : zSem G mX6_act 4 [zR 0, zI w, zI x, zI n] (X sz ar) (zpi fun r u => ∃ sz1 ar1, u = X sz1 ar1 ∧ zSem G mX7_act 4 [zR 41, zI w, zI x, zI n] (X sz1 ar1) (LE r N)) := by
  obtain ⟨ws, kw, hI⟩ := h
  refine zSem_wk (c_X6_act hw hx hn (hI.ck hN)) ?_
  rintro r u ⟨rfl, rfl⟩
  refine ⟨sz, ar, rfl, zSem_wk (c_X7_act hw hx hn (hI.mk hN)) ?_⟩
  rintro r u ⟨rfl, rfl⟩
  exact ⟨by rw [hI.1.1, hI.1.2.1, hI.1.2.2.1], _, _, rfl, hI.up2⟩
theorem p_flips {w n : Int} (h : IN N sz ar) (hN : N ≤ 1000) (hw : zr w) (hn : zr n) : zSem G mX6_flips 4 [zR 0, zI w, zI n] (X sz ar) (zpi fun r u => ∃ sz1 ar1, u = X sz1 ar1 ∧ zSem G mX7_flips 5 [zR 41, zI w, zI n] (X sz1 ar1) (LE r N)) := by
  obtain ⟨ws, kw, hI⟩ := h
  refine zSem_wk (c_X6_flips hw hn (hI.ck hN)) ?_
  rintro r u ⟨rfl, rfl⟩
  refine ⟨sz, ar, rfl, zSem_wk (c_X7_flips hw hn (hI.mk hN)) ?_⟩
  rintro r u ⟨rfl, rfl⟩
  exact ⟨by rw [hI.1.1, hI.1.2.1, hI.1.2.2.1], _, _, rfl, hI.up2⟩
theorem p_round {w x n : Int} (h : IN N sz ar) (hN : N ≤ 1000) (hw : zr w) (hx : zr x) (hn : zr n) : zSem G mX6_round 4 [zR 0, zI w, zI x, zI n] (X sz ar) (zpi fun r u => ∃ sz1 ar1, u = X sz1 ar1 ∧ zSem G mX7_round 5 [zR 41, zI w, zI x, zI n] (X sz1 ar1) (LE r N)) := by
  obtain ⟨ws, kw, hI⟩ := h
  refine zSem_wk (c_X6_round hw hx hn (hI.ck hN)) ?_
  rintro r u ⟨rfl, rfl⟩
  refine ⟨sz, ar, rfl, zSem_wk (c_X7_round hw hx hn (hI.mk hN)) ?_⟩
  rintro r u ⟨rfl, rfl⟩
  exact ⟨by rw [hI.1.1, hI.1.2.1, hI.1.2.2.1], _, _, rfl, hI.up2⟩
/-- the reference's cells behind a step of the class -/
theorem Fg.r {sz1 : zSz} {ar1 : zAr} (h : Fg sz ar sz1 ar1) : sz1 41 = sz 41 ∧ ar1 42 = ar 42 ∧ ar1 43 = ar 43 ∧ ar1 44 = ar 44 ∧ ar1 46 = ar 46 ∧ ar1 47 = ar 47 ∧ ar1 48 = ar 48 ∧ ar1 49 = ar 49 :=
  ⟨h.1 41 (by omega), h.2 42 (by omega) (by omega) (by omega), h.2 43 (by omega) (by omega) (by omega), h.2 44 (by omega) (by omega) (by omega), h.2 46 (by omega) (by omega) (by omega), h.2 47 (by omega) (by omega) (by omega), h.2 48 (by omega) (by omega) (by omega), h.2 49 (by omega) (by omega) (by omega)⟩
theorem stV_so {n s q : Int} {kd nx so so' : Int → Int} (h : so s = so' s) : stV n kd nx so s q = stV n kd nx so' s q := by
  unfold stV
  rw [h]
theorem p_state {s q : Int} (h : IN N sz ar) (hN : N ≤ 1000) (hs : zr s) (hq : zr q) : zSem G mX6_state 5 [zR 0, zI s, zI q] (X sz ar) (zpi fun r u => ∃ sz1 ar1, u = X sz1 ar1 ∧ zSem G mX7_state 6 [zR 41, zI s, zI q] (X sz1 ar1) (LE r N)) := by
  obtain ⟨ws, kw, hI⟩ := h
  refine zSem_wk (c_X6_state hs hq (hI.ck hN)) ?_
  rintro r u ⟨rfl, sz1, ar1, rfl, hF⟩
  have hI1 := hI.fr hF.ce hF.me
  obtain ⟨e41, e42, e43, e44, e46, e47, e48, e49⟩ := hF.r
  refine ⟨sz1, ar1, rfl, zSem_wk (c_X7_state hs hq (hI1.mk hN)) ?_⟩
  rintro r u ⟨rfl, rfl⟩
  refine ⟨?_, _, _, rfl, hI1.up2⟩
  have eso : soR sz1 ar1 = soR sz ar := by unfold soR; rw [e41, e46, e47, e48]
  rw [e41, e42, e43, eso, hI.1.1, hI.1.2.1, hI.1.2.2.1]
  by_cases h1 : ¬ (0 ≤ s ∧ s < sz 41 0)
  · rw [if_pos h1, if_pos h1]
  · rw [if_neg h1, if_neg h1]
    have hn6 := hI.1.2.2.2.1.2.1
    rw [stV_so (so := ar 28) (so' := soR sz ar) (hI.2.2.2.1.2.2.2.2.2.2 s (by omega) (by omega))]
theorem p_nothing {w : Int} (h : IN N sz ar) (hN : N ≤ 1000) (hw : zr w) : zSem G mX6_nothing 5 [zR 0, zI w] (X sz ar) (zpi fun r u => ∃ sz1 ar1, u = X sz1 ar1 ∧ zSem G mX7_nothing 5 [zR 41, zI w] (X sz1 ar1) (LE r N)) := by
  obtain ⟨ws, kw, hI⟩ := h
  refine zSem_wk (c_X6_nothing hw (hI.ck hN)) ?_
  rintro r u ⟨rfl, sz1, ar1, rfl, hF⟩
  have hI1 := hI.fr hF.ce hF.me
  obtain ⟨e41, e42, e43, e44, e46, e47, e48, e49⟩ := hF.r
  refine ⟨sz1, ar1, rfl, zSem_wk (c_X7_nothing hw (hI1.mk hN) hI1.rd) ?_⟩
  rintro r u ⟨rfl, sz2, ar2, rfl, hG⟩
  exact ⟨by rw [e41, e42, e43, hI.1.1, hI.1.2.1, hI.1.2.2.1], _, _, rfl, (hI1.fr hG.k.ce hG.k.me).up2⟩
theorem p_alike {a b : Int} (h : IN N sz ar) (hN : N ≤ 1000) (ha : zr a) (hb : zr b) : zSem G mX6_alike 5 [zR 0, zI a, zI b] (X sz ar) (zpi fun r u => ∃ sz1 ar1, u = X sz1 ar1 ∧ zSem G mX7_alike 5 [zR 41, zI a, zI b] (X sz1 ar1) (LE r N)) := by
  obtain ⟨ws, kw, hI⟩ := h
  refine zSem_wk (c_X6_alike ha hb (hI.ck hN)) ?_
  rintro r u ⟨rfl, sz1, ar1, rfl, hF⟩
  have hI1 := hI.fr hF.ce hF.me
  obtain ⟨e41, e42, e43, e44, e46, e47, e48, e49⟩ := hF.r
  refine ⟨sz1, ar1, rfl, zSem_wk (c_X7_alike ha hb (hI1.mk hN) hI1.rd) ?_⟩
  rintro r u ⟨rfl, sz2, ar2, rfl, hG⟩
  exact ⟨by rw [e41, e42, e43, hI.1.1, hI.1.2.1, hI.1.2.2.1], _, _, rfl, (hI1.fr hG.k.ce hG.k.me).up2⟩
theorem p_order {w : Int} (h : IN N sz ar) (hN : N ≤ 1000) (hw : zr w) : zSem G mX6_order 5 [zR 0, zI w] (X sz ar) (zpi fun r u => ∃ sz1 ar1, u = X sz1 ar1 ∧ zSem G mX7_order 5 [zR 41, zI w] (X sz1 ar1) (LE r N)) := by
  obtain ⟨ws, kw, hI⟩ := h
  refine zSem_wk (c_X6_order hw (hI.ck hN)) ?_
  rintro r u ⟨rfl, sz1, ar1, rfl, hF⟩
  have hI1 := hI.fr hF.ce hF.me
  obtain ⟨e41, e42, e43, e44, e46, e47, e48, e49⟩ := hF.r
  refine ⟨sz1, ar1, rfl, zSem_wk (c_X7_order hw (hI1.mk hN)) ?_⟩
  rintro r u ⟨rfl, sz2, ar2, rfl, hG⟩
  exact ⟨by rw [e41, e42, e43, hI.1.1, hI.1.2.1, hI.1.2.2.1], _, _, rfl, (hI1.fr hG.k.ce hG.k.me).up2⟩
theorem p_drawn {ti s q : Int} (h : IN N sz ar) (hN : N ≤ 1000) (ht : zr ti) (hs : zr s) (hq : zr q) : zSem G mX6_drawn 4 [zR 0, zI ti, zI s, zI q] (X sz ar) (zpi fun r u => ∃ sz1 ar1, u = X sz1 ar1 ∧ zSem G mX7_drawn 4 [zR 41, zI ti, zI s, zI q] (X sz1 ar1) (LE r N)) := by
  obtain ⟨ws, kw, hI⟩ := h
  refine zSem_wk (c_X6_drawn ht hs hq (hI.ck hN)) ?_
  rintro r u ⟨rfl, sz1, ar1, rfl, hF⟩
  have hI1 := hI.fr hF.ce hF.me
  obtain ⟨e41, e42, e43, e44, e46, e47, e48, e49⟩ := hF.r
  refine ⟨sz1, ar1, rfl, zSem_wk (c_X7_drawn ht hs hq (hI1.mk hN)) ?_⟩
  rintro r u ⟨rfl, sz2, ar2, rfl, hG⟩
  exact ⟨by rw [e41, e42, e43, hI.1.1, hI.1.2.1, hI.1.2.2.1], _, _, rfl, (hI1.fr hG.k.ce hG.k.me).up2⟩
theorem INV.wl {ws kw : Int → List Int} (hI : INV N ws kw sz ar) : sz 14 1 + sz 16 1 + sz 18 1 = ar 44 0 + ar 44 1 + ar 44 2 := by
  obtain ⟨w0, w1, w2, w3⟩ := hI.2.2.1
  rw [w0.1, w1.1, w2.1, (w3 0 (by omega) (by omega)).1.1, (w3 1 (by omega) (by omega)).1.1, (w3 2 (by omega) (by omega)).1.1]
theorem p_count {q : Int} (h : IN N sz ar) (hN : N ≤ 1000) (hq : zr q) : zSem G mX6_count 5 [zR 0, zI q] (X sz ar) (zpi fun r u => ∃ sz1 ar1, u = X sz1 ar1 ∧ zSem G mX7_count 7 [zR 41, zI q] (X sz1 ar1) (LE r N)) := by
  obtain ⟨ws, kw, hI⟩ := h
  refine zSem_wk (c_X6_count hq (hI.ck hN)) ?_
  rintro r u ⟨rfl, sz1, ar1, rfl, hF⟩
  have hI1 := hI.fr hF.ce hF.me
  obtain ⟨e41, e42, e43, e44, e46, e47, e48, e49⟩ := hF.r
  refine ⟨sz1, ar1, rfl, zSem_wk (c_X7_count hq (hI1.mk hN).1) ?_⟩
  rintro r u ⟨rfl, rfl⟩
  exact ⟨by rw [e41, e42, e43, e44, hI.wl, hI.1.1, hI.1.2.1, hI.1.2.2.1, hI.2.1.1, hI.2.2.2.1.1, hI.2.2.2.2.1.1], _, _, rfl, hI1.up2⟩
theorem stK_so {n s : Int} {kd nx so so' : Int → Int} (h : so s = so' s) : ∀ (k : Nat) (x : Int), stK n kd nx so s k x = stK n kd nx so' s k x := by
  intro k
  induction k with
  | zero => intro x; rfl
  | succ k ih => intro x; rw [stK, stK, ih x, stV_so h]
theorem stH_so {n : Int} {kd nx so so' : Int → Int} : ∀ (k : Nat) (x : Int), (∀ s : Int, 0 ≤ s → s < k → so s = so' s) → stH n kd nx so k x = stH n kd nx so' k x := by
  intro k
  induction k with
  | zero => intro x _; rfl
  | succ k ih => intro x h; rw [stH, stH, ih x (fun s a b => h s a (by omega)), stK_so (h k (by omega) (by omega))]
theorem p_digest (h : IN N sz ar) (hN : N ≤ 1000) : zSem G mX6_digest 7 [zR 0] (X sz ar) (zpl fun r u => ∃ sz1 ar1, u = X sz1 ar1 ∧ zSem G mX7_digest 7 [zR 41] (X sz1 ar1) (LEl r N)) := by
  obtain ⟨ws, kw, hI⟩ := h
  refine zSem_wkl (c_X6_digest (hI.ck hN)) ?_
  rintro r u ⟨rfl, sz1, ar1, rfl, hF⟩
  have hI1 := hI.fr hF.ce hF.me
  obtain ⟨e41, e42, e43, e44, e46, e47, e48, e49⟩ := hF.r
  refine ⟨sz1, ar1, rfl, zSem_wkl (c_X7_digest (hI1.mk hN) hI1.rd) ?_⟩
  rintro r u ⟨rfl, sz2, ar2, rfl, hG⟩
  refine ⟨?_, _, _, rfl, (hI1.fr hG.ce hG.me).up2⟩
  have eso : soR sz1 ar1 = soR sz ar := by unfold soR; rw [e41, e46, e47, e48]
  have hn := hI.1.2.2.2.1.1
  have hn6 := hI.1.2.2.2.1.2.1
  have esh := stH_so (n := sz 41 0) (kd := ar 42) (nx := ar 43) (so := ar 28) (so' := soR sz ar) (sz 41 0).toNat 1471 (fun s a b => hI.2.2.2.1.2.2.2.2.2.2 s a (by omega))
  rw [e41, e42, e43, e44, e49, eso, hI.wl, hI.1.1, hI.1.2.1, hI.1.2.2.1, hI.2.1.1, hI.2.1.2.1, hI.2.2.2.1.1, hI.2.2.2.2.1.1]
  unfold dig
  rw [esh]
end ZPAIR
