/-! the law: its cases, its loop -/
def mLaw : zM := (yL_law, cL_law, 4, some .boolean)
abbrev zBL : Room × Nat × Nat := (room_1, 600000, 7302250)
def zQL (G : zG) : List Frame → Array Value → State → State → Prop := fun below _ s t => ∃ (o : Outcome) (L : List Loc), t.status = .running ∧ Ended t below o ∧ o = .returned (some (.int 1)) ∧ Framed s o t L 600000 7302250 ∧ ((∀ q, zAd G q → s.heap.size ≤ q) → L = [])
theorem z_lawret0 {p : Program} {l : Launch} {e : Env} {s : State} {m : MethodId} {args : Array Value} {below : List Frame} {meth : Method} {c : Code} {locs : List Loc} (hx : p.tables.exec = Jvm.exec) (hb : c.code = code) (hr : meth.sig.returnType = ret) (hlocks : meth.locks = false) {pc : Nat} {H : Heap} {ls : Array Slot} (hdg : decode code pc = .ok (.ireturn, 1)) : W p l e room_1 s m args below meth c H locs 600000 7302250 (fun t => ∃ o : Outcome, t.status = .running ∧ Ended t below o ∧ o = .returned (some (.int 1)) ∧ Framed s o t locs 600000 7302250) (F0 m pc ls [.int 1]) := by
  intro T hT X
  obtain ⟨fs, hret, hrun, hended, hW, hframe⟩ := X.leave (v := some (.int 1)) (hlocks := hlocks) (fun h => by rw [hr] at h; cases h)
  have hmeth' : T.vm.method? m = some meth := X.method'
  refine ⟨T.setFrames fs, ?_, .returned (some (.int 1)), hrun, hended, rfl, ⟨_, rfl⟩, hW, hframe⟩
  jvm_step X.here [X.here.top, hx, hb, hdg, hmeth', hr, ret, narrow_b1]
  (try refine ⟨rfl, ?_⟩); (try refine ⟨rfl, ?_⟩)
  first | (intro acts; rw [hret _ acts rfl rfl rfl]) | rw [hret _ _ rfl rfl rfl]
  exact Steps.refl _
theorem W_mono9 {p : Program} {l : Launch} {e : Env} {R : Room} {s : State} {m : MethodId} {args : Array Value} {below : List Frame} {meth : Method} {c : Code} {H : Heap} {locs : List Loc} {k n : Nat} {Q Q' : State → Prop} {g : JFrame} (h : W p l e R s m args below meth c H locs k n Q g) (hq : ∀ t, Q t → Q' t) : W p l e R s m args below meth c H locs k n Q' g := by
  intro T hT X
  obtain ⟨t, h1, h2⟩ := h T hT X
  exact ⟨t, h1, hq t h2⟩
theorem z_lawret {G : zG} {pc : Nat} {L : List (Option zV)} {st : zS} (hd : decode code pc = .ok (.ireturn, 1)) : zW G mLaw zBL (zQL G) pc L [zI 1] st := by
  intro p l e s m args below meth c H locs ls F J P S hl
  obtain ⟨hx, hb, hr, hml, hown, hts, hlocks, hK, hI, hZ⟩ := F
  by_cases h : ∀ q, zAd G q → s.heap.size ≤ q
  · refine va_forget (fun q hq => h _ (S.2.2 q hq)) ?_
    exact W_mono9 (z_lawret0 hx hb hr hlocks hd) (fun t ⟨o, h1, h2, h3, h4⟩ => ⟨o, [], h1, h2, h3, h4, fun _ => rfl⟩)
  · exact W_mono9 (z_lawret0 hx hb hr hlocks hd) (fun t ⟨o, h1, h2, h3, h4⟩ => ⟨o, locs, h1, h2, h3, h4, fun z => absurd z h⟩)
theorem xz (x : Int32) : zr x.toInt := ⟨by have := Int32.le_toInt x; omega, by have := Int32.toInt_lt x; omega⟩
set_option maxHeartbeats 4000000 in
theorem q_letter {G : zG} {N i : Int} {sz : zSz} {ar : zAr} (h : IN N sz ar) (hN : N ≤ 1000) (h0 : 0 ≤ i) (h1 : i + 4 ≤ G.2.2.2.1) (hL : G.2.2.2.1 ≤ 2048) (K : ∀ sz2 ar2, IN (N + 1) sz2 ar2 → zW G mLaw zBL (zQL G) 907 [some (zR 95), some (zR 0), some (zR 41), some (zI i)] [] (X sz2 ar2)) : zW G mLaw zBL (zQL G) 152 [some (zR 95), some (zR 0), some (zR 41), some (zI i)] [] (X sz ar) := by
  refine z_aload_1 dL_law_152 (n := 153) rfl ?_
  refine z_aload_0 dL_law_153 (n := 154) rfl ?_
  refine z_iload_3 dL_law_154 (n := 155) rfl ?_
  refine z_iconst dL_law_155 (n := 156) rfl ?_
  refine z_iadd dL_law_156 (n := 157) rfl ?_
  refine z_xald dL_law_157 (n := 158) rfl (by omega) (by omega) (by omega) ?_
  refine z_callV1i dL_law_158 (n := 161) rfl mv_X6_letter lk_L_13 rfl ⟨Nat.le_of_ble_eq_true rfl, Nat.le_of_ble_eq_true rfl, Nat.le_refl _, Nat.le_refl _⟩ (Nat.le_of_ble_eq_true rfl) (p_letter h hN (xz _)) (fun r u hp => ?_)
  obtain ⟨sz1, ar1, rfl, h2⟩ := hp
  refine z_aload_2 dL_law_161 (n := 162) rfl ?_
  refine z_aload_0 dL_law_162 (n := 163) rfl ?_
  refine z_iload_3 dL_law_163 (n := 164) rfl ?_
  refine z_iconst dL_law_164 (n := 165) rfl ?_
  refine z_iadd dL_law_165 (n := 166) rfl ?_
  refine z_xald dL_law_166 (n := 167) rfl (by omega) (by omega) (by omega) ?_
  refine z_callV1i dL_law_167 (n := 170) rfl mv_X7_letter lk_L_17 rfl ⟨Nat.le_of_ble_eq_true rfl, Nat.le_of_ble_eq_true rfl, Nat.le_refl _, Nat.le_refl _⟩ (Nat.le_of_ble_eq_true rfl) (h2) (fun r u hp => ?_)
  obtain ⟨rfl, sz2, ar2, rfl, hI2⟩ := hp
  exact z_icmp_same dL_law_170 (tg := 907) (by decide) (K _ _ hI2)
set_option maxHeartbeats 4000000 in
theorem q_blank {G : zG} {N i : Int} {sz : zSz} {ar : zAr} (h : IN N sz ar) (hN : N ≤ 1000) (h0 : 0 ≤ i) (h1 : i + 4 ≤ G.2.2.2.1) (hL : G.2.2.2.1 ≤ 2048) (K : ∀ sz2 ar2, IN (N + 1) sz2 ar2 → zW G mLaw zBL (zQL G) 907 [some (zR 95), some (zR 0), some (zR 41), some (zI i)] [] (X sz2 ar2)) : zW G mLaw zBL (zQL G) 175 [some (zR 95), some (zR 0), some (zR 41), some (zI i)] [] (X sz ar) := by
  refine z_aload_1 dL_law_175 (n := 176) rfl ?_
  refine z_callV0i dL_law_176 (n := 179) rfl mv_X6_blank lk_L_18 rfl ⟨Nat.le_of_ble_eq_true rfl, Nat.le_of_ble_eq_true rfl, Nat.le_refl _, Nat.le_refl _⟩ (Nat.le_of_ble_eq_true rfl) (p_blank h hN) (fun r u hp => ?_)
  obtain ⟨sz1, ar1, rfl, h2⟩ := hp
  refine z_aload_2 dL_law_179 (n := 180) rfl ?_
  refine z_callV0i dL_law_180 (n := 183) rfl mv_X7_blank lk_L_22 rfl ⟨Nat.le_of_ble_eq_true rfl, Nat.le_of_ble_eq_true rfl, Nat.le_refl _, Nat.le_refl _⟩ (Nat.le_of_ble_eq_true rfl) (h2) (fun r u hp => ?_)
  obtain ⟨rfl, sz2, ar2, rfl, hI2⟩ := hp
  exact z_icmp_same dL_law_183 (tg := 907) (by decide) (K _ _ hI2)
set_option maxHeartbeats 4000000 in
theorem q_fault {G : zG} {N i : Int} {sz : zSz} {ar : zAr} (h : IN N sz ar) (hN : N ≤ 1000) (h0 : 0 ≤ i) (h1 : i + 4 ≤ G.2.2.2.1) (hL : G.2.2.2.1 ≤ 2048) (K : ∀ sz2 ar2, IN (N + 1) sz2 ar2 → zW G mLaw zBL (zQL G) 907 [some (zR 95), some (zR 0), some (zR 41), some (zI i)] [] (X sz2 ar2)) : zW G mLaw zBL (zQL G) 188 [some (zR 95), some (zR 0), some (zR 41), some (zI i)] [] (X sz ar) := by
  refine z_aload_1 dL_law_188 (n := 189) rfl ?_
  refine z_callV0i dL_law_189 (n := 192) rfl mv_X6_fault lk_L_23 rfl ⟨Nat.le_of_ble_eq_true rfl, Nat.le_of_ble_eq_true rfl, Nat.le_refl _, Nat.le_refl _⟩ (Nat.le_of_ble_eq_true rfl) (p_fault h hN) (fun r u hp => ?_)
  obtain ⟨sz1, ar1, rfl, h2⟩ := hp
  refine z_aload_2 dL_law_192 (n := 193) rfl ?_
  refine z_callV0i dL_law_193 (n := 196) rfl mv_X7_fault lk_L_26 rfl ⟨Nat.le_of_ble_eq_true rfl, Nat.le_of_ble_eq_true rfl, Nat.le_refl _, Nat.le_refl _⟩ (Nat.le_of_ble_eq_true rfl) (h2) (fun r u hp => ?_)
  obtain ⟨rfl, sz2, ar2, rfl, hI2⟩ := hp
  exact z_icmp_same dL_law_196 (tg := 907) (by decide) (K _ _ hI2)
set_option maxHeartbeats 4000000 in
theorem q_machine {G : zG} {N i : Int} {sz : zSz} {ar : zAr} (h : IN N sz ar) (hN : N ≤ 1000) (h0 : 0 ≤ i) (h1 : i + 4 ≤ G.2.2.2.1) (hL : G.2.2.2.1 ≤ 2048) (K : ∀ sz2 ar2, IN (N + 1) sz2 ar2 → zW G mLaw zBL (zQL G) 907 [some (zR 95), some (zR 0), some (zR 41), some (zI i)] [] (X sz2 ar2)) : zW G mLaw zBL (zQL G) 201 [some (zR 95), some (zR 0), some (zR 41), some (zI i)] [] (X sz ar) := by
  refine z_aload_1 dL_law_201 (n := 202) rfl ?_
  refine z_callV0i dL_law_202 (n := 205) rfl mv_X6_machine lk_L_27 rfl ⟨Nat.le_of_ble_eq_true rfl, Nat.le_of_ble_eq_true rfl, Nat.le_refl _, Nat.le_refl _⟩ (Nat.le_of_ble_eq_true rfl) (p_machine h hN) (fun r u hp => ?_)
  obtain ⟨sz1, ar1, rfl, h2⟩ := hp
  refine z_aload_2 dL_law_205 (n := 206) rfl ?_
  refine z_callV0i dL_law_206 (n := 209) rfl mv_X7_machine lk_L_30 rfl ⟨Nat.le_of_ble_eq_true rfl, Nat.le_of_ble_eq_true rfl, Nat.le_refl _, Nat.le_refl _⟩ (Nat.le_of_ble_eq_true rfl) (h2) (fun r u hp => ?_)
  obtain ⟨rfl, sz2, ar2, rfl, hI2⟩ := hp
  exact z_icmp_same dL_law_209 (tg := 907) (by decide) (K _ _ hI2)
set_option maxHeartbeats 4000000 in
theorem q_word {G : zG} {N i : Int} {sz : zSz} {ar : zAr} (h : IN N sz ar) (hN : N ≤ 1000) (h0 : 0 ≤ i) (h1 : i + 4 ≤ G.2.2.2.1) (hL : G.2.2.2.1 ≤ 2048) (K : ∀ sz2 ar2, IN (N + 1) sz2 ar2 → zW G mLaw zBL (zQL G) 907 [some (zR 95), some (zR 0), some (zR 41), some (zI i)] [] (X sz2 ar2)) : zW G mLaw zBL (zQL G) 214 [some (zR 95), some (zR 0), some (zR 41), some (zI i)] [] (X sz ar) := by
  refine z_aload_1 dL_law_214 (n := 215) rfl ?_
  refine z_aload_0 dL_law_215 (n := 216) rfl ?_
  refine z_iload_3 dL_law_216 (n := 217) rfl ?_
  refine z_iconst dL_law_217 (n := 218) rfl ?_
  refine z_iadd dL_law_218 (n := 219) rfl ?_
  refine z_xald dL_law_219 (n := 220) rfl (by omega) (by omega) (by omega) ?_
  refine z_callV1i dL_law_220 (n := 223) rfl mv_X6_word lk_L_31 rfl ⟨Nat.le_of_ble_eq_true rfl, Nat.le_of_ble_eq_true rfl, Nat.le_refl _, Nat.le_refl _⟩ (Nat.le_of_ble_eq_true rfl) (p_word h hN (xz _)) (fun r u hp => ?_)
  obtain ⟨sz1, ar1, rfl, h2⟩ := hp
  refine z_aload_2 dL_law_223 (n := 224) rfl ?_
  refine z_aload_0 dL_law_224 (n := 225) rfl ?_
  refine z_iload_3 dL_law_225 (n := 226) rfl ?_
  refine z_iconst dL_law_226 (n := 227) rfl ?_
  refine z_iadd dL_law_227 (n := 228) rfl ?_
  refine z_xald dL_law_228 (n := 229) rfl (by omega) (by omega) (by omega) ?_
  refine z_callV1i dL_law_229 (n := 232) rfl mv_X7_word lk_L_34 rfl ⟨Nat.le_of_ble_eq_true rfl, Nat.le_of_ble_eq_true rfl, Nat.le_refl _, Nat.le_refl _⟩ (Nat.le_of_ble_eq_true rfl) (h2) (fun r u hp => ?_)
  obtain ⟨rfl, sz2, ar2, rfl, hI2⟩ := hp
  exact z_icmp_same dL_law_232 (tg := 907) (by decide) (K _ _ hI2)
set_option maxHeartbeats 4000000 in
theorem q_state {G : zG} {N i : Int} {sz : zSz} {ar : zAr} (h : IN N sz ar) (hN : N ≤ 1000) (h0 : 0 ≤ i) (h1 : i + 4 ≤ G.2.2.2.1) (hL : G.2.2.2.1 ≤ 2048) (K : ∀ sz2 ar2, IN (N + 1) sz2 ar2 → zW G mLaw zBL (zQL G) 907 [some (zR 95), some (zR 0), some (zR 41), some (zI i)] [] (X sz2 ar2)) : zW G mLaw zBL (zQL G) 237 [some (zR 95), some (zR 0), some (zR 41), some (zI i)] [] (X sz ar) := by
  refine z_aload_1 dL_law_237 (n := 238) rfl ?_
  refine z_aload_0 dL_law_238 (n := 239) rfl ?_
  refine z_iload_3 dL_law_239 (n := 240) rfl ?_
  refine z_iconst dL_law_240 (n := 241) rfl ?_
  refine z_iadd dL_law_241 (n := 242) rfl ?_
  refine z_xald dL_law_242 (n := 243) rfl (by omega) (by omega) (by omega) ?_
  refine z_aload_0 dL_law_243 (n := 244) rfl ?_
  refine z_iload_3 dL_law_244 (n := 245) rfl ?_
  refine z_iconst dL_law_245 (n := 246) rfl ?_
  refine z_iadd dL_law_246 (n := 247) rfl ?_
  refine z_xald dL_law_247 (n := 248) rfl (by omega) (by omega) (by omega) ?_
  refine z_callV2i dL_law_248 (n := 251) rfl mv_X6_state lk_L_35 rfl ⟨Nat.le_of_ble_eq_true rfl, Nat.le_of_ble_eq_true rfl, Nat.le_refl _, Nat.le_refl _⟩ (Nat.le_of_ble_eq_true rfl) (p_state h hN (xz _) (xz _)) (fun r u hp => ?_)
  obtain ⟨sz1, ar1, rfl, h2⟩ := hp
  refine z_aload_2 dL_law_251 (n := 252) rfl ?_
  refine z_aload_0 dL_law_252 (n := 253) rfl ?_
  refine z_iload_3 dL_law_253 (n := 254) rfl ?_
  refine z_iconst dL_law_254 (n := 255) rfl ?_
  refine z_iadd dL_law_255 (n := 256) rfl ?_
  refine z_xald dL_law_256 (n := 257) rfl (by omega) (by omega) (by omega) ?_
  refine z_aload_0 dL_law_257 (n := 258) rfl ?_
  refine z_iload_3 dL_law_258 (n := 259) rfl ?_
  refine z_iconst dL_law_259 (n := 260) rfl ?_
  refine z_iadd dL_law_260 (n := 261) rfl ?_
  refine z_xald dL_law_261 (n := 262) rfl (by omega) (by omega) (by omega) ?_
  refine z_callV2i dL_law_262 (n := 265) rfl mv_X7_state lk_L_39 rfl ⟨Nat.le_of_ble_eq_true rfl, Nat.le_of_ble_eq_true rfl, Nat.le_refl _, Nat.le_refl _⟩ (Nat.le_of_ble_eq_true rfl) (h2) (fun r u hp => ?_)
  obtain ⟨rfl, sz2, ar2, rfl, hI2⟩ := hp
  exact z_icmp_same dL_law_265 (tg := 907) (by decide) (K _ _ hI2)
set_option maxHeartbeats 4000000 in
theorem q_as {G : zG} {N i : Int} {sz : zSz} {ar : zAr} (h : IN N sz ar) (hN : N ≤ 1000) (h0 : 0 ≤ i) (h1 : i + 4 ≤ G.2.2.2.1) (hL : G.2.2.2.1 ≤ 2048) (K : ∀ sz2 ar2, IN (N + 1) sz2 ar2 → zW G mLaw zBL (zQL G) 907 [some (zR 95), some (zR 0), some (zR 41), some (zI i)] [] (X sz2 ar2)) : zW G mLaw zBL (zQL G) 270 [some (zR 95), some (zR 0), some (zR 41), some (zI i)] [] (X sz ar) := by
  refine z_aload_1 dL_law_270 (n := 271) rfl ?_
  refine z_aload_0 dL_law_271 (n := 272) rfl ?_
  refine z_iload_3 dL_law_272 (n := 273) rfl ?_
  refine z_iconst dL_law_273 (n := 274) rfl ?_
  refine z_iadd dL_law_274 (n := 275) rfl ?_
  refine z_xald dL_law_275 (n := 276) rfl (by omega) (by omega) (by omega) ?_
  refine z_aload_0 dL_law_276 (n := 277) rfl ?_
  refine z_iload_3 dL_law_277 (n := 278) rfl ?_
  refine z_iconst dL_law_278 (n := 279) rfl ?_
  refine z_iadd dL_law_279 (n := 280) rfl ?_
  refine z_xald dL_law_280 (n := 281) rfl (by omega) (by omega) (by omega) ?_
  refine z_callV2i dL_law_281 (n := 284) rfl mv_X6_as lk_L_40 rfl ⟨Nat.le_of_ble_eq_true rfl, Nat.le_of_ble_eq_true rfl, Nat.le_refl _, Nat.le_refl _⟩ (Nat.le_of_ble_eq_true rfl) (p_as h hN (xz _) (xz _)) (fun r u hp => ?_)
  obtain ⟨sz1, ar1, rfl, h2⟩ := hp
  refine z_aload_2 dL_law_284 (n := 285) rfl ?_
  refine z_aload_0 dL_law_285 (n := 286) rfl ?_
  refine z_iload_3 dL_law_286 (n := 287) rfl ?_
  refine z_iconst dL_law_287 (n := 288) rfl ?_
  refine z_iadd dL_law_288 (n := 289) rfl ?_
  refine z_xald dL_law_289 (n := 290) rfl (by omega) (by omega) (by omega) ?_
  refine z_aload_0 dL_law_290 (n := 291) rfl ?_
  refine z_iload_3 dL_law_291 (n := 292) rfl ?_
  refine z_iconst dL_law_292 (n := 293) rfl ?_
  refine z_iadd dL_law_293 (n := 294) rfl ?_
  refine z_xald dL_law_294 (n := 295) rfl (by omega) (by omega) (by omega) ?_
  refine z_callV2i dL_law_295 (n := 298) rfl mv_X7_as lk_L_43 rfl ⟨Nat.le_of_ble_eq_true rfl, Nat.le_of_ble_eq_true rfl, Nat.le_refl _, Nat.le_refl _⟩ (Nat.le_of_ble_eq_true rfl) (h2) (fun r u hp => ?_)
  obtain ⟨rfl, sz2, ar2, rfl, hI2⟩ := hp
  exact z_icmp_same dL_law_298 (tg := 907) (by decide) (K _ _ hI2)
set_option maxHeartbeats 4000000 in
theorem q_sign {G : zG} {N i : Int} {sz : zSz} {ar : zAr} (h : IN N sz ar) (hN : N ≤ 1000) (h0 : 0 ≤ i) (h1 : i + 4 ≤ G.2.2.2.1) (hL : G.2.2.2.1 ≤ 2048) (K : ∀ sz2 ar2, IN (N + 1) sz2 ar2 → zW G mLaw zBL (zQL G) 907 [some (zR 95), some (zR 0), some (zR 41), some (zI i)] [] (X sz2 ar2)) : zW G mLaw zBL (zQL G) 303 [some (zR 95), some (zR 0), some (zR 41), some (zI i)] [] (X sz ar) := by
  refine z_aload_1 dL_law_303 (n := 304) rfl ?_
  refine z_aload_0 dL_law_304 (n := 305) rfl ?_
  refine z_iload_3 dL_law_305 (n := 306) rfl ?_
  refine z_iconst dL_law_306 (n := 307) rfl ?_
  refine z_iadd dL_law_307 (n := 308) rfl ?_
  refine z_xald dL_law_308 (n := 309) rfl (by omega) (by omega) (by omega) ?_
  refine z_aload_0 dL_law_309 (n := 310) rfl ?_
  refine z_iload_3 dL_law_310 (n := 311) rfl ?_
  refine z_iconst dL_law_311 (n := 312) rfl ?_
  refine z_iadd dL_law_312 (n := 313) rfl ?_
  refine z_xald dL_law_313 (n := 314) rfl (by omega) (by omega) (by omega) ?_
  refine z_callV2i dL_law_314 (n := 317) rfl mv_X6_sign lk_L_44 rfl ⟨Nat.le_of_ble_eq_true rfl, Nat.le_of_ble_eq_true rfl, Nat.le_refl _, Nat.le_refl _⟩ (Nat.le_of_ble_eq_true rfl) (p_sign h hN (xz _) (xz _)) (fun r u hp => ?_)
  obtain ⟨sz1, ar1, rfl, h2⟩ := hp
  refine z_aload_2 dL_law_317 (n := 318) rfl ?_
  refine z_aload_0 dL_law_318 (n := 319) rfl ?_
  refine z_iload_3 dL_law_319 (n := 320) rfl ?_
  refine z_iconst dL_law_320 (n := 321) rfl ?_
  refine z_iadd dL_law_321 (n := 322) rfl ?_
  refine z_xald dL_law_322 (n := 323) rfl (by omega) (by omega) (by omega) ?_
  refine z_aload_0 dL_law_323 (n := 324) rfl ?_
  refine z_iload_3 dL_law_324 (n := 325) rfl ?_
  refine z_iconst dL_law_325 (n := 326) rfl ?_
  refine z_iadd dL_law_326 (n := 327) rfl ?_
  refine z_xald dL_law_327 (n := 328) rfl (by omega) (by omega) (by omega) ?_
  refine z_callV2i dL_law_328 (n := 331) rfl mv_X7_sign lk_L_47 rfl ⟨Nat.le_of_ble_eq_true rfl, Nat.le_of_ble_eq_true rfl, Nat.le_refl _, Nat.le_refl _⟩ (Nat.le_of_ble_eq_true rfl) (h2) (fun r u hp => ?_)
  obtain ⟨rfl, sz2, ar2, rfl, hI2⟩ := hp
  exact z_icmp_same dL_law_331 (tg := 907) (by decide) (K _ _ hI2)
set_option maxHeartbeats 4000000 in
theorem q_act {G : zG} {N i : Int} {sz : zSz} {ar : zAr} (h : IN N sz ar) (hN : N ≤ 1000) (h0 : 0 ≤ i) (h1 : i + 4 ≤ G.2.2.2.1) (hL : G.2.2.2.1 ≤ 2048) (K : ∀ sz2 ar2, IN (N + 1) sz2 ar2 → zW G mLaw zBL (zQL G) 907 [some (zR 95), some (zR 0), some (zR 41), some (zI i)] [] (X sz2 ar2)) : zW G mLaw zBL (zQL G) 336 [some (zR 95), some (zR 0), some (zR 41), some (zI i)] [] (X sz ar) := by
  refine z_aload_1 dL_law_336 (n := 337) rfl ?_
  refine z_aload_0 dL_law_337 (n := 338) rfl ?_
  refine z_iload_3 dL_law_338 (n := 339) rfl ?_
  refine z_iconst dL_law_339 (n := 340) rfl ?_
  refine z_iadd dL_law_340 (n := 341) rfl ?_
  refine z_xald dL_law_341 (n := 342) rfl (by omega) (by omega) (by omega) ?_
  refine z_aload_0 dL_law_342 (n := 343) rfl ?_
  refine z_iload_3 dL_law_343 (n := 344) rfl ?_
  refine z_iconst dL_law_344 (n := 345) rfl ?_
  refine z_iadd dL_law_345 (n := 346) rfl ?_
  refine z_xald dL_law_346 (n := 347) rfl (by omega) (by omega) (by omega) ?_
  refine z_aload_0 dL_law_347 (n := 348) rfl ?_
  refine z_iload_3 dL_law_348 (n := 349) rfl ?_
  refine z_iconst dL_law_349 (n := 350) rfl ?_
  refine z_iadd dL_law_350 (n := 351) rfl ?_
  refine z_xald dL_law_351 (n := 352) rfl (by omega) (by omega) (by omega) ?_
  refine z_callV3i dL_law_352 (n := 355) rfl mv_X6_act lk_L_48 rfl ⟨Nat.le_of_ble_eq_true rfl, Nat.le_of_ble_eq_true rfl, Nat.le_refl _, Nat.le_refl _⟩ (Nat.le_of_ble_eq_true rfl) (p_act h hN (xz _) (xz _) (xz _)) (fun r u hp => ?_)
  obtain ⟨sz1, ar1, rfl, h2⟩ := hp
  refine z_aload_2 dL_law_355 (n := 356) rfl ?_
  refine z_aload_0 dL_law_356 (n := 357) rfl ?_
  refine z_iload_3 dL_law_357 (n := 358) rfl ?_
  refine z_iconst dL_law_358 (n := 359) rfl ?_
  refine z_iadd dL_law_359 (n := 360) rfl ?_
  refine z_xald dL_law_360 (n := 361) rfl (by omega) (by omega) (by omega) ?_
  refine z_aload_0 dL_law_361 (n := 362) rfl ?_
  refine z_iload_3 dL_law_362 (n := 363) rfl ?_
  refine z_iconst dL_law_363 (n := 364) rfl ?_
  refine z_iadd dL_law_364 (n := 365) rfl ?_
  refine z_xald dL_law_365 (n := 366) rfl (by omega) (by omega) (by omega) ?_
  refine z_aload_0 dL_law_366 (n := 367) rfl ?_
  refine z_iload_3 dL_law_367 (n := 368) rfl ?_
  refine z_iconst dL_law_368 (n := 369) rfl ?_
  refine z_iadd dL_law_369 (n := 370) rfl ?_
  refine z_xald dL_law_370 (n := 371) rfl (by omega) (by omega) (by omega) ?_
  refine z_callV3i dL_law_371 (n := 374) rfl mv_X7_act lk_L_52 rfl ⟨Nat.le_of_ble_eq_true rfl, Nat.le_of_ble_eq_true rfl, Nat.le_refl _, Nat.le_refl _⟩ (Nat.le_of_ble_eq_true rfl) (h2) (fun r u hp => ?_)
  obtain ⟨rfl, sz2, ar2, rfl, hI2⟩ := hp
  exact z_icmp_same dL_law_374 (tg := 907) (by decide) (K _ _ hI2)
set_option maxHeartbeats 4000000 in
theorem q_flips {G : zG} {N i : Int} {sz : zSz} {ar : zAr} (h : IN N sz ar) (hN : N ≤ 1000) (h0 : 0 ≤ i) (h1 : i + 4 ≤ G.2.2.2.1) (hL : G.2.2.2.1 ≤ 2048) (K : ∀ sz2 ar2, IN (N + 1) sz2 ar2 → zW G mLaw zBL (zQL G) 907 [some (zR 95), some (zR 0), some (zR 41), some (zI i)] [] (X sz2 ar2)) : zW G mLaw zBL (zQL G) 379 [some (zR 95), some (zR 0), some (zR 41), some (zI i)] [] (X sz ar) := by
  refine z_aload_1 dL_law_379 (n := 380) rfl ?_
  refine z_aload_0 dL_law_380 (n := 381) rfl ?_
  refine z_iload_3 dL_law_381 (n := 382) rfl ?_
  refine z_iconst dL_law_382 (n := 383) rfl ?_
  refine z_iadd dL_law_383 (n := 384) rfl ?_
  refine z_xald dL_law_384 (n := 385) rfl (by omega) (by omega) (by omega) ?_
  refine z_aload_0 dL_law_385 (n := 386) rfl ?_
  refine z_iload_3 dL_law_386 (n := 387) rfl ?_
  refine z_iconst dL_law_387 (n := 388) rfl ?_
  refine z_iadd dL_law_388 (n := 389) rfl ?_
  refine z_xald dL_law_389 (n := 390) rfl (by omega) (by omega) (by omega) ?_
  refine z_callV2i dL_law_390 (n := 393) rfl mv_X6_flips lk_L_53 rfl ⟨Nat.le_of_ble_eq_true rfl, Nat.le_of_ble_eq_true rfl, Nat.le_refl _, Nat.le_refl _⟩ (Nat.le_of_ble_eq_true rfl) (p_flips h hN (xz _) (xz _)) (fun r u hp => ?_)
  obtain ⟨sz1, ar1, rfl, h2⟩ := hp
  refine z_aload_2 dL_law_393 (n := 394) rfl ?_
  refine z_aload_0 dL_law_394 (n := 395) rfl ?_
  refine z_iload_3 dL_law_395 (n := 396) rfl ?_
  refine z_iconst dL_law_396 (n := 397) rfl ?_
  refine z_iadd dL_law_397 (n := 398) rfl ?_
  refine z_xald dL_law_398 (n := 399) rfl (by omega) (by omega) (by omega) ?_
  refine z_aload_0 dL_law_399 (n := 400) rfl ?_
  refine z_iload_3 dL_law_400 (n := 401) rfl ?_
  refine z_iconst dL_law_401 (n := 402) rfl ?_
  refine z_iadd dL_law_402 (n := 403) rfl ?_
  refine z_xald dL_law_403 (n := 404) rfl (by omega) (by omega) (by omega) ?_
  refine z_callV2i dL_law_404 (n := 407) rfl mv_X7_flips lk_L_56 rfl ⟨Nat.le_of_ble_eq_true rfl, Nat.le_of_ble_eq_true rfl, Nat.le_refl _, Nat.le_refl _⟩ (Nat.le_of_ble_eq_true rfl) (h2) (fun r u hp => ?_)
  obtain ⟨rfl, sz2, ar2, rfl, hI2⟩ := hp
  exact z_icmp_same dL_law_407 (tg := 907) (by decide) (K _ _ hI2)
set_option maxHeartbeats 4000000 in
theorem q_round {G : zG} {N i : Int} {sz : zSz} {ar : zAr} (h : IN N sz ar) (hN : N ≤ 1000) (h0 : 0 ≤ i) (h1 : i + 4 ≤ G.2.2.2.1) (hL : G.2.2.2.1 ≤ 2048) (K : ∀ sz2 ar2, IN (N + 1) sz2 ar2 → zW G mLaw zBL (zQL G) 907 [some (zR 95), some (zR 0), some (zR 41), some (zI i)] [] (X sz2 ar2)) : zW G mLaw zBL (zQL G) 412 [some (zR 95), some (zR 0), some (zR 41), some (zI i)] [] (X sz ar) := by
  refine z_aload_1 dL_law_412 (n := 413) rfl ?_
  refine z_aload_0 dL_law_413 (n := 414) rfl ?_
  refine z_iload_3 dL_law_414 (n := 415) rfl ?_
  refine z_iconst dL_law_415 (n := 416) rfl ?_
  refine z_iadd dL_law_416 (n := 417) rfl ?_
  refine z_xald dL_law_417 (n := 418) rfl (by omega) (by omega) (by omega) ?_
  refine z_aload_0 dL_law_418 (n := 419) rfl ?_
  refine z_iload_3 dL_law_419 (n := 420) rfl ?_
  refine z_iconst dL_law_420 (n := 421) rfl ?_
  refine z_iadd dL_law_421 (n := 422) rfl ?_
  refine z_xald dL_law_422 (n := 423) rfl (by omega) (by omega) (by omega) ?_
  refine z_aload_0 dL_law_423 (n := 424) rfl ?_
  refine z_iload_3 dL_law_424 (n := 425) rfl ?_
  refine z_iconst dL_law_425 (n := 426) rfl ?_
  refine z_iadd dL_law_426 (n := 427) rfl ?_
  refine z_xald dL_law_427 (n := 428) rfl (by omega) (by omega) (by omega) ?_
  refine z_callV3i dL_law_428 (n := 431) rfl mv_X6_round lk_L_57 rfl ⟨Nat.le_of_ble_eq_true rfl, Nat.le_of_ble_eq_true rfl, Nat.le_refl _, Nat.le_refl _⟩ (Nat.le_of_ble_eq_true rfl) (p_round h hN (xz _) (xz _) (xz _)) (fun r u hp => ?_)
  obtain ⟨sz1, ar1, rfl, h2⟩ := hp
  refine z_aload_2 dL_law_431 (n := 432) rfl ?_
  refine z_aload_0 dL_law_432 (n := 433) rfl ?_
  refine z_iload_3 dL_law_433 (n := 434) rfl ?_
  refine z_iconst dL_law_434 (n := 435) rfl ?_
  refine z_iadd dL_law_435 (n := 436) rfl ?_
  refine z_xald dL_law_436 (n := 437) rfl (by omega) (by omega) (by omega) ?_
  refine z_aload_0 dL_law_437 (n := 438) rfl ?_
  refine z_iload_3 dL_law_438 (n := 439) rfl ?_
  refine z_iconst dL_law_439 (n := 440) rfl ?_
  refine z_iadd dL_law_440 (n := 441) rfl ?_
  refine z_xald dL_law_441 (n := 442) rfl (by omega) (by omega) (by omega) ?_
  refine z_aload_0 dL_law_442 (n := 443) rfl ?_
  refine z_iload_3 dL_law_443 (n := 444) rfl ?_
  refine z_iconst dL_law_444 (n := 445) rfl ?_
  refine z_iadd dL_law_445 (n := 446) rfl ?_
  refine z_xald dL_law_446 (n := 447) rfl (by omega) (by omega) (by omega) ?_
  refine z_callV3i dL_law_447 (n := 450) rfl mv_X7_round lk_L_60 rfl ⟨Nat.le_of_ble_eq_true rfl, Nat.le_of_ble_eq_true rfl, Nat.le_refl _, Nat.le_refl _⟩ (Nat.le_of_ble_eq_true rfl) (h2) (fun r u hp => ?_)
  obtain ⟨rfl, sz2, ar2, rfl, hI2⟩ := hp
  exact z_icmp_same dL_law_450 (tg := 907) (by decide) (K _ _ hI2)
set_option maxHeartbeats 4000000 in
theorem q_nothing {G : zG} {N i : Int} {sz : zSz} {ar : zAr} (h : IN N sz ar) (hN : N ≤ 1000) (h0 : 0 ≤ i) (h1 : i + 4 ≤ G.2.2.2.1) (hL : G.2.2.2.1 ≤ 2048) (K : ∀ sz2 ar2, IN (N + 1) sz2 ar2 → zW G mLaw zBL (zQL G) 907 [some (zR 95), some (zR 0), some (zR 41), some (zI i)] [] (X sz2 ar2)) : zW G mLaw zBL (zQL G) 455 [some (zR 95), some (zR 0), some (zR 41), some (zI i)] [] (X sz ar) := by
  refine z_aload_1 dL_law_455 (n := 456) rfl ?_
  refine z_aload_0 dL_law_456 (n := 457) rfl ?_
  refine z_iload_3 dL_law_457 (n := 458) rfl ?_
  refine z_iconst dL_law_458 (n := 459) rfl ?_
  refine z_iadd dL_law_459 (n := 460) rfl ?_
  refine z_xald dL_law_460 (n := 461) rfl (by omega) (by omega) (by omega) ?_
  refine z_callV1i dL_law_461 (n := 464) rfl mv_X6_nothing lk_L_61 rfl ⟨Nat.le_of_ble_eq_true rfl, Nat.le_of_ble_eq_true rfl, Nat.le_refl _, Nat.le_refl _⟩ (Nat.le_of_ble_eq_true rfl) (p_nothing h hN (xz _)) (fun r u hp => ?_)
  obtain ⟨sz1, ar1, rfl, h2⟩ := hp
  refine z_aload_2 dL_law_464 (n := 465) rfl ?_
  refine z_aload_0 dL_law_465 (n := 466) rfl ?_
  refine z_iload_3 dL_law_466 (n := 467) rfl ?_
  refine z_iconst dL_law_467 (n := 468) rfl ?_
  refine z_iadd dL_law_468 (n := 469) rfl ?_
  refine z_xald dL_law_469 (n := 470) rfl (by omega) (by omega) (by omega) ?_
  refine z_callV1i dL_law_470 (n := 473) rfl mv_X7_nothing lk_L_64 rfl ⟨Nat.le_of_ble_eq_true rfl, Nat.le_of_ble_eq_true rfl, Nat.le_refl _, Nat.le_refl _⟩ (Nat.le_of_ble_eq_true rfl) (h2) (fun r u hp => ?_)
  obtain ⟨rfl, sz2, ar2, rfl, hI2⟩ := hp
  exact z_icmp_same dL_law_473 (tg := 907) (by decide) (K _ _ hI2)
set_option maxHeartbeats 4000000 in
theorem q_alike {G : zG} {N i : Int} {sz : zSz} {ar : zAr} (h : IN N sz ar) (hN : N ≤ 1000) (h0 : 0 ≤ i) (h1 : i + 4 ≤ G.2.2.2.1) (hL : G.2.2.2.1 ≤ 2048) (K : ∀ sz2 ar2, IN (N + 1) sz2 ar2 → zW G mLaw zBL (zQL G) 907 [some (zR 95), some (zR 0), some (zR 41), some (zI i)] [] (X sz2 ar2)) : zW G mLaw zBL (zQL G) 478 [some (zR 95), some (zR 0), some (zR 41), some (zI i)] [] (X sz ar) := by
  refine z_aload_1 dL_law_478 (n := 479) rfl ?_
  refine z_aload_0 dL_law_479 (n := 480) rfl ?_
  refine z_iload_3 dL_law_480 (n := 481) rfl ?_
  refine z_iconst dL_law_481 (n := 482) rfl ?_
  refine z_iadd dL_law_482 (n := 483) rfl ?_
  refine z_xald dL_law_483 (n := 484) rfl (by omega) (by omega) (by omega) ?_
  refine z_aload_0 dL_law_484 (n := 485) rfl ?_
  refine z_iload_3 dL_law_485 (n := 486) rfl ?_
  refine z_iconst dL_law_486 (n := 487) rfl ?_
  refine z_iadd dL_law_487 (n := 488) rfl ?_
  refine z_xald dL_law_488 (n := 489) rfl (by omega) (by omega) (by omega) ?_
  refine z_callV2i dL_law_489 (n := 492) rfl mv_X6_alike lk_L_65 rfl ⟨Nat.le_of_ble_eq_true rfl, Nat.le_of_ble_eq_true rfl, Nat.le_refl _, Nat.le_refl _⟩ (Nat.le_of_ble_eq_true rfl) (p_alike h hN (xz _) (xz _)) (fun r u hp => ?_)
  obtain ⟨sz1, ar1, rfl, h2⟩ := hp
  refine z_aload_2 dL_law_492 (n := 493) rfl ?_
  refine z_aload_0 dL_law_493 (n := 494) rfl ?_
  refine z_iload_3 dL_law_494 (n := 495) rfl ?_
  refine z_iconst dL_law_495 (n := 496) rfl ?_
  refine z_iadd dL_law_496 (n := 497) rfl ?_
  refine z_xald dL_law_497 (n := 498) rfl (by omega) (by omega) (by omega) ?_
  refine z_aload_0 dL_law_498 (n := 499) rfl ?_
  refine z_iload_3 dL_law_499 (n := 500) rfl ?_
  refine z_iconst dL_law_500 (n := 501) rfl ?_
  refine z_iadd dL_law_501 (n := 502) rfl ?_
  refine z_xald dL_law_502 (n := 503) rfl (by omega) (by omega) (by omega) ?_
  refine z_callV2i dL_law_503 (n := 506) rfl mv_X7_alike lk_L_68 rfl ⟨Nat.le_of_ble_eq_true rfl, Nat.le_of_ble_eq_true rfl, Nat.le_refl _, Nat.le_refl _⟩ (Nat.le_of_ble_eq_true rfl) (h2) (fun r u hp => ?_)
  obtain ⟨rfl, sz2, ar2, rfl, hI2⟩ := hp
  exact z_icmp_same dL_law_506 (tg := 907) (by decide) (K _ _ hI2)
set_option maxHeartbeats 4000000 in
theorem q_order {G : zG} {N i : Int} {sz : zSz} {ar : zAr} (h : IN N sz ar) (hN : N ≤ 1000) (h0 : 0 ≤ i) (h1 : i + 4 ≤ G.2.2.2.1) (hL : G.2.2.2.1 ≤ 2048) (K : ∀ sz2 ar2, IN (N + 1) sz2 ar2 → zW G mLaw zBL (zQL G) 907 [some (zR 95), some (zR 0), some (zR 41), some (zI i)] [] (X sz2 ar2)) : zW G mLaw zBL (zQL G) 511 [some (zR 95), some (zR 0), some (zR 41), some (zI i)] [] (X sz ar) := by
  refine z_aload_1 dL_law_511 (n := 512) rfl ?_
  refine z_aload_0 dL_law_512 (n := 513) rfl ?_
  refine z_iload_3 dL_law_513 (n := 514) rfl ?_
  refine z_iconst dL_law_514 (n := 515) rfl ?_
  refine z_iadd dL_law_515 (n := 516) rfl ?_
  refine z_xald dL_law_516 (n := 517) rfl (by omega) (by omega) (by omega) ?_
  refine z_callV1i dL_law_517 (n := 520) rfl mv_X6_order lk_L_69 rfl ⟨Nat.le_of_ble_eq_true rfl, Nat.le_of_ble_eq_true rfl, Nat.le_refl _, Nat.le_refl _⟩ (Nat.le_of_ble_eq_true rfl) (p_order h hN (xz _)) (fun r u hp => ?_)
  obtain ⟨sz1, ar1, rfl, h2⟩ := hp
  refine z_aload_2 dL_law_520 (n := 521) rfl ?_
  refine z_aload_0 dL_law_521 (n := 522) rfl ?_
  refine z_iload_3 dL_law_522 (n := 523) rfl ?_
  refine z_iconst dL_law_523 (n := 524) rfl ?_
  refine z_iadd dL_law_524 (n := 525) rfl ?_
  refine z_xald dL_law_525 (n := 526) rfl (by omega) (by omega) (by omega) ?_
  refine z_callV1i dL_law_526 (n := 529) rfl mv_X7_order lk_L_72 rfl ⟨Nat.le_of_ble_eq_true rfl, Nat.le_of_ble_eq_true rfl, Nat.le_refl _, Nat.le_refl _⟩ (Nat.le_of_ble_eq_true rfl) (h2) (fun r u hp => ?_)
  obtain ⟨rfl, sz2, ar2, rfl, hI2⟩ := hp
  exact z_icmp_same dL_law_529 (tg := 907) (by decide) (K _ _ hI2)
set_option maxHeartbeats 4000000 in
theorem q_times {G : zG} {N i : Int} {sz : zSz} {ar : zAr} (h : IN N sz ar) (hN : N ≤ 1000) (h0 : 0 ≤ i) (h1 : i + 4 ≤ G.2.2.2.1) (hL : G.2.2.2.1 ≤ 2048) (K : ∀ sz2 ar2, IN (N + 1) sz2 ar2 → zW G mLaw zBL (zQL G) 907 [some (zR 95), some (zR 0), some (zR 41), some (zI i)] [] (X sz2 ar2)) : zW G mLaw zBL (zQL G) 534 [some (zR 95), some (zR 0), some (zR 41), some (zI i)] [] (X sz ar) := by
  refine z_aload_1 dL_law_534 (n := 535) rfl ?_
  refine z_aload_0 dL_law_535 (n := 536) rfl ?_
  refine z_iload_3 dL_law_536 (n := 537) rfl ?_
  refine z_iconst dL_law_537 (n := 538) rfl ?_
  refine z_iadd dL_law_538 (n := 539) rfl ?_
  refine z_xald dL_law_539 (n := 540) rfl (by omega) (by omega) (by omega) ?_
  refine z_aload_0 dL_law_540 (n := 541) rfl ?_
  refine z_iload_3 dL_law_541 (n := 542) rfl ?_
  refine z_iconst dL_law_542 (n := 543) rfl ?_
  refine z_iadd dL_law_543 (n := 544) rfl ?_
  refine z_xald dL_law_544 (n := 545) rfl (by omega) (by omega) (by omega) ?_
  refine z_aload_0 dL_law_545 (n := 546) rfl ?_
  refine z_iload_3 dL_law_546 (n := 547) rfl ?_
  refine z_iconst dL_law_547 (n := 548) rfl ?_
  refine z_iadd dL_law_548 (n := 549) rfl ?_
  refine z_xald dL_law_549 (n := 550) rfl (by omega) (by omega) (by omega) ?_
  refine z_callV3i dL_law_550 (n := 553) rfl mv_X6_times lk_L_73 rfl ⟨Nat.le_of_ble_eq_true rfl, Nat.le_of_ble_eq_true rfl, Nat.le_refl _, Nat.le_refl _⟩ (Nat.le_of_ble_eq_true rfl) (p_times h hN (xz _) (xz _) (xz _)) (fun r u hp => ?_)
  obtain ⟨sz1, ar1, rfl, h2⟩ := hp
  refine z_aload_2 dL_law_553 (n := 554) rfl ?_
  refine z_aload_0 dL_law_554 (n := 555) rfl ?_
  refine z_iload_3 dL_law_555 (n := 556) rfl ?_
  refine z_iconst dL_law_556 (n := 557) rfl ?_
  refine z_iadd dL_law_557 (n := 558) rfl ?_
  refine z_xald dL_law_558 (n := 559) rfl (by omega) (by omega) (by omega) ?_
  refine z_aload_0 dL_law_559 (n := 560) rfl ?_
  refine z_iload_3 dL_law_560 (n := 561) rfl ?_
  refine z_iconst dL_law_561 (n := 562) rfl ?_
  refine z_iadd dL_law_562 (n := 563) rfl ?_
  refine z_xald dL_law_563 (n := 564) rfl (by omega) (by omega) (by omega) ?_
  refine z_aload_0 dL_law_564 (n := 565) rfl ?_
  refine z_iload_3 dL_law_565 (n := 566) rfl ?_
  refine z_iconst dL_law_566 (n := 567) rfl ?_
  refine z_iadd dL_law_567 (n := 568) rfl ?_
  refine z_xald dL_law_568 (n := 569) rfl (by omega) (by omega) (by omega) ?_
  refine z_callV3i dL_law_569 (n := 572) rfl mv_X7_times lk_L_76 rfl ⟨Nat.le_of_ble_eq_true rfl, Nat.le_of_ble_eq_true rfl, Nat.le_refl _, Nat.le_refl _⟩ (Nat.le_of_ble_eq_true rfl) (h2) (fun r u hp => ?_)
  obtain ⟨rfl, sz2, ar2, rfl, hI2⟩ := hp
  exact z_icmp_same dL_law_572 (tg := 907) (by decide) (K _ _ hI2)
set_option maxHeartbeats 4000000 in
theorem q_undo {G : zG} {N i : Int} {sz : zSz} {ar : zAr} (h : IN N sz ar) (hN : N ≤ 1000) (h0 : 0 ≤ i) (h1 : i + 4 ≤ G.2.2.2.1) (hL : G.2.2.2.1 ≤ 2048) (K : ∀ sz2 ar2, IN (N + 1) sz2 ar2 → zW G mLaw zBL (zQL G) 907 [some (zR 95), some (zR 0), some (zR 41), some (zI i)] [] (X sz2 ar2)) : zW G mLaw zBL (zQL G) 577 [some (zR 95), some (zR 0), some (zR 41), some (zI i)] [] (X sz ar) := by
  refine z_aload_1 dL_law_577 (n := 578) rfl ?_
  refine z_aload_0 dL_law_578 (n := 579) rfl ?_
  refine z_iload_3 dL_law_579 (n := 580) rfl ?_
  refine z_iconst dL_law_580 (n := 581) rfl ?_
  refine z_iadd dL_law_581 (n := 582) rfl ?_
  refine z_xald dL_law_582 (n := 583) rfl (by omega) (by omega) (by omega) ?_
  refine z_aload_0 dL_law_583 (n := 584) rfl ?_
  refine z_iload_3 dL_law_584 (n := 585) rfl ?_
  refine z_iconst dL_law_585 (n := 586) rfl ?_
  refine z_iadd dL_law_586 (n := 587) rfl ?_
  refine z_xald dL_law_587 (n := 588) rfl (by omega) (by omega) (by omega) ?_
  refine z_callV2i dL_law_588 (n := 591) rfl mv_X6_undo lk_L_77 rfl ⟨Nat.le_of_ble_eq_true rfl, Nat.le_of_ble_eq_true rfl, Nat.le_refl _, Nat.le_refl _⟩ (Nat.le_of_ble_eq_true rfl) (p_undo h hN (xz _) (xz _)) (fun r u hp => ?_)
  obtain ⟨sz1, ar1, rfl, h2⟩ := hp
  refine z_aload_2 dL_law_591 (n := 592) rfl ?_
  refine z_aload_0 dL_law_592 (n := 593) rfl ?_
  refine z_iload_3 dL_law_593 (n := 594) rfl ?_
  refine z_iconst dL_law_594 (n := 595) rfl ?_
  refine z_iadd dL_law_595 (n := 596) rfl ?_
  refine z_xald dL_law_596 (n := 597) rfl (by omega) (by omega) (by omega) ?_
  refine z_aload_0 dL_law_597 (n := 598) rfl ?_
  refine z_iload_3 dL_law_598 (n := 599) rfl ?_
  refine z_iconst dL_law_599 (n := 600) rfl ?_
  refine z_iadd dL_law_600 (n := 601) rfl ?_
  refine z_xald dL_law_601 (n := 602) rfl (by omega) (by omega) (by omega) ?_
  refine z_callV2i dL_law_602 (n := 605) rfl mv_X7_undo lk_L_80 rfl ⟨Nat.le_of_ble_eq_true rfl, Nat.le_of_ble_eq_true rfl, Nat.le_refl _, Nat.le_refl _⟩ (Nat.le_of_ble_eq_true rfl) (h2) (fun r u hp => ?_)
  obtain ⟨rfl, sz2, ar2, rfl, hI2⟩ := hp
  exact z_icmp_same dL_law_605 (tg := 907) (by decide) (K _ _ hI2)
set_option maxHeartbeats 4000000 in
theorem q_section {G : zG} {N i : Int} {sz : zSz} {ar : zAr} (h : IN N sz ar) (hN : N ≤ 1000) (h0 : 0 ≤ i) (h1 : i + 4 ≤ G.2.2.2.1) (hL : G.2.2.2.1 ≤ 2048) (K : ∀ sz2 ar2, IN (N + 1) sz2 ar2 → zW G mLaw zBL (zQL G) 907 [some (zR 95), some (zR 0), some (zR 41), some (zI i)] [] (X sz2 ar2)) : zW G mLaw zBL (zQL G) 610 [some (zR 95), some (zR 0), some (zR 41), some (zI i)] [] (X sz ar) := by
  refine z_aload_1 dL_law_610 (n := 611) rfl ?_
  refine z_aload_0 dL_law_611 (n := 612) rfl ?_
  refine z_iload_3 dL_law_612 (n := 613) rfl ?_
  refine z_iconst dL_law_613 (n := 614) rfl ?_
  refine z_iadd dL_law_614 (n := 615) rfl ?_
  refine z_xald dL_law_615 (n := 616) rfl (by omega) (by omega) (by omega) ?_
  refine z_aload_0 dL_law_616 (n := 617) rfl ?_
  refine z_iload_3 dL_law_617 (n := 618) rfl ?_
  refine z_iconst dL_law_618 (n := 619) rfl ?_
  refine z_iadd dL_law_619 (n := 620) rfl ?_
  refine z_xald dL_law_620 (n := 621) rfl (by omega) (by omega) (by omega) ?_
  refine z_aload_0 dL_law_621 (n := 622) rfl ?_
  refine z_iload_3 dL_law_622 (n := 623) rfl ?_
  refine z_iconst dL_law_623 (n := 624) rfl ?_
  refine z_iadd dL_law_624 (n := 625) rfl ?_
  refine z_xald dL_law_625 (n := 626) rfl (by omega) (by omega) (by omega) ?_
  refine z_callV3i dL_law_626 (n := 629) rfl mv_X6_section lk_L_81 rfl ⟨Nat.le_of_ble_eq_true rfl, Nat.le_of_ble_eq_true rfl, Nat.le_refl _, Nat.le_refl _⟩ (Nat.le_of_ble_eq_true rfl) (p_section h hN (xz _) (xz _) (xz _)) (fun r u hp => ?_)
  obtain ⟨sz1, ar1, rfl, h2⟩ := hp
  refine z_aload_2 dL_law_629 (n := 630) rfl ?_
  refine z_aload_0 dL_law_630 (n := 631) rfl ?_
  refine z_iload_3 dL_law_631 (n := 632) rfl ?_
  refine z_iconst dL_law_632 (n := 633) rfl ?_
  refine z_iadd dL_law_633 (n := 634) rfl ?_
  refine z_xald dL_law_634 (n := 635) rfl (by omega) (by omega) (by omega) ?_
  refine z_aload_0 dL_law_635 (n := 636) rfl ?_
  refine z_iload_3 dL_law_636 (n := 637) rfl ?_
  refine z_iconst dL_law_637 (n := 638) rfl ?_
  refine z_iadd dL_law_638 (n := 639) rfl ?_
  refine z_xald dL_law_639 (n := 640) rfl (by omega) (by omega) (by omega) ?_
  refine z_aload_0 dL_law_640 (n := 641) rfl ?_
  refine z_iload_3 dL_law_641 (n := 642) rfl ?_
  refine z_iconst dL_law_642 (n := 643) rfl ?_
  refine z_iadd dL_law_643 (n := 644) rfl ?_
  refine z_xald dL_law_644 (n := 645) rfl (by omega) (by omega) (by omega) ?_
  refine z_callV3i dL_law_645 (n := 648) rfl mv_X7_section lk_L_84 rfl ⟨Nat.le_of_ble_eq_true rfl, Nat.le_of_ble_eq_true rfl, Nat.le_refl _, Nat.le_refl _⟩ (Nat.le_of_ble_eq_true rfl) (h2) (fun r u hp => ?_)
  obtain ⟨rfl, sz2, ar2, rfl, hI2⟩ := hp
  exact z_icmp_same dL_law_648 (tg := 907) (by decide) (K _ _ hI2)
set_option maxHeartbeats 4000000 in
theorem q_aim {G : zG} {N i : Int} {sz : zSz} {ar : zAr} (h : IN N sz ar) (hN : N ≤ 1000) (h0 : 0 ≤ i) (h1 : i + 4 ≤ G.2.2.2.1) (hL : G.2.2.2.1 ≤ 2048) (K : ∀ sz2 ar2, IN (N + 1) sz2 ar2 → zW G mLaw zBL (zQL G) 907 [some (zR 95), some (zR 0), some (zR 41), some (zI i)] [] (X sz2 ar2)) : zW G mLaw zBL (zQL G) 653 [some (zR 95), some (zR 0), some (zR 41), some (zI i)] [] (X sz ar) := by
  refine z_aload_1 dL_law_653 (n := 654) rfl ?_
  refine z_aload_0 dL_law_654 (n := 655) rfl ?_
  refine z_iload_3 dL_law_655 (n := 656) rfl ?_
  refine z_iconst dL_law_656 (n := 657) rfl ?_
  refine z_iadd dL_law_657 (n := 658) rfl ?_
  refine z_xald dL_law_658 (n := 659) rfl (by omega) (by omega) (by omega) ?_
  refine z_aload_0 dL_law_659 (n := 660) rfl ?_
  refine z_iload_3 dL_law_660 (n := 661) rfl ?_
  refine z_iconst dL_law_661 (n := 662) rfl ?_
  refine z_iadd dL_law_662 (n := 663) rfl ?_
  refine z_xald dL_law_663 (n := 664) rfl (by omega) (by omega) (by omega) ?_
  refine z_aload_0 dL_law_664 (n := 665) rfl ?_
  refine z_iload_3 dL_law_665 (n := 666) rfl ?_
  refine z_iconst dL_law_666 (n := 667) rfl ?_
  refine z_iadd dL_law_667 (n := 668) rfl ?_
  refine z_xald dL_law_668 (n := 669) rfl (by omega) (by omega) (by omega) ?_
  refine z_callV3i dL_law_669 (n := 672) rfl mv_X6_aim lk_L_85 rfl ⟨Nat.le_of_ble_eq_true rfl, Nat.le_of_ble_eq_true rfl, Nat.le_refl _, Nat.le_refl _⟩ (Nat.le_of_ble_eq_true rfl) (p_aim h hN (xz _) (xz _) (xz _)) (fun r u hp => ?_)
  obtain ⟨sz1, ar1, rfl, h2⟩ := hp
  refine z_aload_2 dL_law_672 (n := 673) rfl ?_
  refine z_aload_0 dL_law_673 (n := 674) rfl ?_
  refine z_iload_3 dL_law_674 (n := 675) rfl ?_
  refine z_iconst dL_law_675 (n := 676) rfl ?_
  refine z_iadd dL_law_676 (n := 677) rfl ?_
  refine z_xald dL_law_677 (n := 678) rfl (by omega) (by omega) (by omega) ?_
  refine z_aload_0 dL_law_678 (n := 679) rfl ?_
  refine z_iload_3 dL_law_679 (n := 680) rfl ?_
  refine z_iconst dL_law_680 (n := 681) rfl ?_
  refine z_iadd dL_law_681 (n := 682) rfl ?_
  refine z_xald dL_law_682 (n := 683) rfl (by omega) (by omega) (by omega) ?_
  refine z_aload_0 dL_law_683 (n := 684) rfl ?_
  refine z_iload_3 dL_law_684 (n := 685) rfl ?_
  refine z_iconst dL_law_685 (n := 686) rfl ?_
  refine z_iadd dL_law_686 (n := 687) rfl ?_
  refine z_xald dL_law_687 (n := 688) rfl (by omega) (by omega) (by omega) ?_
  refine z_callV3i dL_law_688 (n := 691) rfl mv_X7_aim lk_L_88 rfl ⟨Nat.le_of_ble_eq_true rfl, Nat.le_of_ble_eq_true rfl, Nat.le_refl _, Nat.le_refl _⟩ (Nat.le_of_ble_eq_true rfl) (h2) (fun r u hp => ?_)
  obtain ⟨rfl, sz2, ar2, rfl, hI2⟩ := hp
  exact z_icmp_same dL_law_691 (tg := 907) (by decide) (K _ _ hI2)
set_option maxHeartbeats 4000000 in
theorem q_change {G : zG} {N i : Int} {sz : zSz} {ar : zAr} (h : IN N sz ar) (hN : N ≤ 1000) (h0 : 0 ≤ i) (h1 : i + 4 ≤ G.2.2.2.1) (hL : G.2.2.2.1 ≤ 2048) (K : ∀ sz2 ar2, IN (N + 1) sz2 ar2 → zW G mLaw zBL (zQL G) 907 [some (zR 95), some (zR 0), some (zR 41), some (zI i)] [] (X sz2 ar2)) : zW G mLaw zBL (zQL G) 696 [some (zR 95), some (zR 0), some (zR 41), some (zI i)] [] (X sz ar) := by
  refine z_aload_1 dL_law_696 (n := 697) rfl ?_
  refine z_aload_0 dL_law_697 (n := 698) rfl ?_
  refine z_iload_3 dL_law_698 (n := 699) rfl ?_
  refine z_iconst dL_law_699 (n := 700) rfl ?_
  refine z_iadd dL_law_700 (n := 701) rfl ?_
  refine z_xald dL_law_701 (n := 702) rfl (by omega) (by omega) (by omega) ?_
  refine z_aload_0 dL_law_702 (n := 703) rfl ?_
  refine z_iload_3 dL_law_703 (n := 704) rfl ?_
  refine z_iconst dL_law_704 (n := 705) rfl ?_
  refine z_iadd dL_law_705 (n := 706) rfl ?_
  refine z_xald dL_law_706 (n := 707) rfl (by omega) (by omega) (by omega) ?_
  refine z_callV2i dL_law_707 (n := 710) rfl mv_X6_change lk_L_89 rfl ⟨Nat.le_of_ble_eq_true rfl, Nat.le_of_ble_eq_true rfl, Nat.le_refl _, Nat.le_refl _⟩ (Nat.le_of_ble_eq_true rfl) (p_change h hN (xz _) (xz _)) (fun r u hp => ?_)
  obtain ⟨sz1, ar1, rfl, h2⟩ := hp
  refine z_aload_2 dL_law_710 (n := 711) rfl ?_
  refine z_aload_0 dL_law_711 (n := 712) rfl ?_
  refine z_iload_3 dL_law_712 (n := 713) rfl ?_
  refine z_iconst dL_law_713 (n := 714) rfl ?_
  refine z_iadd dL_law_714 (n := 715) rfl ?_
  refine z_xald dL_law_715 (n := 716) rfl (by omega) (by omega) (by omega) ?_
  refine z_aload_0 dL_law_716 (n := 717) rfl ?_
  refine z_iload_3 dL_law_717 (n := 718) rfl ?_
  refine z_iconst dL_law_718 (n := 719) rfl ?_
  refine z_iadd dL_law_719 (n := 720) rfl ?_
  refine z_xald dL_law_720 (n := 721) rfl (by omega) (by omega) (by omega) ?_
  refine z_callV2i dL_law_721 (n := 724) rfl mv_X7_change lk_L_92 rfl ⟨Nat.le_of_ble_eq_true rfl, Nat.le_of_ble_eq_true rfl, Nat.le_refl _, Nat.le_refl _⟩ (Nat.le_of_ble_eq_true rfl) (h2) (fun r u hp => ?_)
  obtain ⟨rfl, sz2, ar2, rfl, hI2⟩ := hp
  exact z_icmp_same dL_law_724 (tg := 907) (by decide) (K _ _ hI2)
set_option maxHeartbeats 4000000 in
theorem q_see0 {G : zG} {N i : Int} {sz : zSz} {ar : zAr} (h : IN N sz ar) (hN : N ≤ 1000) (h0 : 0 ≤ i) (h1 : i + 4 ≤ G.2.2.2.1) (hL : G.2.2.2.1 ≤ 2048) (K : ∀ sz2 ar2, IN (N + 1) sz2 ar2 → zW G mLaw zBL (zQL G) 907 [some (zR 95), some (zR 0), some (zR 41), some (zI i)] [] (X sz2 ar2)) (hz : (G.2.2.2.2 (i + 3).toNat).toInt = 0) : zW G mLaw zBL (zQL G) 729 [some (zR 95), some (zR 0), some (zR 41), some (zI i)] [] (X sz ar) := by
  refine z_aload_1 dL_law_729 (n := 730) rfl ?_
  refine z_aload_0 dL_law_730 (n := 731) rfl ?_
  refine z_iload_3 dL_law_731 (n := 732) rfl ?_
  refine z_iconst dL_law_732 (n := 733) rfl ?_
  refine z_iadd dL_law_733 (n := 734) rfl ?_
  refine z_xald dL_law_734 (n := 735) rfl (by omega) (by omega) (by omega) ?_
  refine z_aload_0 dL_law_735 (n := 736) rfl ?_
  refine z_iload_3 dL_law_736 (n := 737) rfl ?_
  refine z_iconst dL_law_737 (n := 738) rfl ?_
  refine z_iadd dL_law_738 (n := 739) rfl ?_
  refine z_xald dL_law_739 (n := 740) rfl (by omega) (by omega) (by omega) ?_
  refine z_aload_0 dL_law_740 (n := 741) rfl ?_
  refine z_iload_3 dL_law_741 (n := 742) rfl ?_
  refine z_iconst dL_law_742 (n := 743) rfl ?_
  refine z_iadd dL_law_743 (n := 744) rfl ?_
  refine z_xald dL_law_744 (n := 745) rfl (by omega) (by omega) (by omega) ?_
  refine z_if_eq dL_law_745 (n := 748) (tg := 752) rfl (by decide) (by first | exact xz _ | assumption | exact ⟨by omega, by omega⟩ | exact zb_zr _) (fun c745 => ?_) (fun c745 => ?_)
  · refine z_iconst dL_law_752 (n := 753) rfl ?_
    refine z_callV3i dL_law_753 (n := 756) rfl mv_X6_see lk_L_93 rfl ⟨Nat.le_of_ble_eq_true rfl, Nat.le_of_ble_eq_true rfl, Nat.le_refl _, Nat.le_refl _⟩ (Nat.le_of_ble_eq_true rfl) (p_see h hN (xz _) (xz _) (Or.inl rfl)) (fun r u hp => ?_)
    obtain ⟨sz1, ar1, rfl, h2⟩ := hp
    refine z_aload_2 dL_law_756 (n := 757) rfl ?_
    refine z_aload_0 dL_law_757 (n := 758) rfl ?_
    refine z_iload_3 dL_law_758 (n := 759) rfl ?_
    refine z_iconst dL_law_759 (n := 760) rfl ?_
    refine z_iadd dL_law_760 (n := 761) rfl ?_
    refine z_xald dL_law_761 (n := 762) rfl (by omega) (by omega) (by omega) ?_
    refine z_aload_0 dL_law_762 (n := 763) rfl ?_
    refine z_iload_3 dL_law_763 (n := 764) rfl ?_
    refine z_iconst dL_law_764 (n := 765) rfl ?_
    refine z_iadd dL_law_765 (n := 766) rfl ?_
    refine z_xald dL_law_766 (n := 767) rfl (by omega) (by omega) (by omega) ?_
    refine z_aload_0 dL_law_767 (n := 768) rfl ?_
    refine z_iload_3 dL_law_768 (n := 769) rfl ?_
    refine z_iconst dL_law_769 (n := 770) rfl ?_
    refine z_iadd dL_law_770 (n := 771) rfl ?_
    refine z_xald dL_law_771 (n := 772) rfl (by omega) (by omega) (by omega) ?_
    refine z_if_eq dL_law_772 (n := 775) (tg := 779) rfl (by decide) (by first | exact xz _ | assumption | exact ⟨by omega, by omega⟩ | exact zb_zr _) (fun c772 => ?_) (fun c772 => ?_)
    · refine z_iconst dL_law_779 (n := 780) rfl ?_
      refine z_callV3i dL_law_780 (n := 783) rfl mv_X7_see lk_L_97 rfl ⟨Nat.le_of_ble_eq_true rfl, Nat.le_of_ble_eq_true rfl, Nat.le_refl _, Nat.le_refl _⟩ (Nat.le_of_ble_eq_true rfl) (h2) (fun r u hp => ?_)
      obtain ⟨rfl, sz2, ar2, rfl, hI2⟩ := hp
      exact z_icmp_same dL_law_783 (tg := 907) (by decide) (K _ _ hI2)
    · exact absurd hz c772
  · exact absurd hz c745
set_option maxHeartbeats 4000000 in
theorem q_see1 {G : zG} {N i : Int} {sz : zSz} {ar : zAr} (h : IN N sz ar) (hN : N ≤ 1000) (h0 : 0 ≤ i) (h1 : i + 4 ≤ G.2.2.2.1) (hL : G.2.2.2.1 ≤ 2048) (K : ∀ sz2 ar2, IN (N + 1) sz2 ar2 → zW G mLaw zBL (zQL G) 907 [some (zR 95), some (zR 0), some (zR 41), some (zI i)] [] (X sz2 ar2)) (hz : (G.2.2.2.2 (i + 3).toNat).toInt ≠ 0) : zW G mLaw zBL (zQL G) 729 [some (zR 95), some (zR 0), some (zR 41), some (zI i)] [] (X sz ar) := by
  refine z_aload_1 dL_law_729 (n := 730) rfl ?_
  refine z_aload_0 dL_law_730 (n := 731) rfl ?_
  refine z_iload_3 dL_law_731 (n := 732) rfl ?_
  refine z_iconst dL_law_732 (n := 733) rfl ?_
  refine z_iadd dL_law_733 (n := 734) rfl ?_
  refine z_xald dL_law_734 (n := 735) rfl (by omega) (by omega) (by omega) ?_
  refine z_aload_0 dL_law_735 (n := 736) rfl ?_
  refine z_iload_3 dL_law_736 (n := 737) rfl ?_
  refine z_iconst dL_law_737 (n := 738) rfl ?_
  refine z_iadd dL_law_738 (n := 739) rfl ?_
  refine z_xald dL_law_739 (n := 740) rfl (by omega) (by omega) (by omega) ?_
  refine z_aload_0 dL_law_740 (n := 741) rfl ?_
  refine z_iload_3 dL_law_741 (n := 742) rfl ?_
  refine z_iconst dL_law_742 (n := 743) rfl ?_
  refine z_iadd dL_law_743 (n := 744) rfl ?_
  refine z_xald dL_law_744 (n := 745) rfl (by omega) (by omega) (by omega) ?_
  refine z_if_eq dL_law_745 (n := 748) (tg := 752) rfl (by decide) (by first | exact xz _ | assumption | exact ⟨by omega, by omega⟩ | exact zb_zr _) (fun c745 => ?_) (fun c745 => ?_)
  · exact absurd c745 hz
  · refine z_iconst dL_law_748 (n := 749) rfl ?_
    refine z_goto dL_law_749 (n := 753) (by decide) ?_
    refine z_callV3i dL_law_753 (n := 756) rfl mv_X6_see lk_L_93 rfl ⟨Nat.le_of_ble_eq_true rfl, Nat.le_of_ble_eq_true rfl, Nat.le_refl _, Nat.le_refl _⟩ (Nat.le_of_ble_eq_true rfl) (p_see h hN (xz _) (xz _) (Or.inr rfl)) (fun r u hp => ?_)
    obtain ⟨sz1, ar1, rfl, h2⟩ := hp
    refine z_aload_2 dL_law_756 (n := 757) rfl ?_
    refine z_aload_0 dL_law_757 (n := 758) rfl ?_
    refine z_iload_3 dL_law_758 (n := 759) rfl ?_
    refine z_iconst dL_law_759 (n := 760) rfl ?_
    refine z_iadd dL_law_760 (n := 761) rfl ?_
    refine z_xald dL_law_761 (n := 762) rfl (by omega) (by omega) (by omega) ?_
    refine z_aload_0 dL_law_762 (n := 763) rfl ?_
    refine z_iload_3 dL_law_763 (n := 764) rfl ?_
    refine z_iconst dL_law_764 (n := 765) rfl ?_
    refine z_iadd dL_law_765 (n := 766) rfl ?_
    refine z_xald dL_law_766 (n := 767) rfl (by omega) (by omega) (by omega) ?_
    refine z_aload_0 dL_law_767 (n := 768) rfl ?_
    refine z_iload_3 dL_law_768 (n := 769) rfl ?_
    refine z_iconst dL_law_769 (n := 770) rfl ?_
    refine z_iadd dL_law_770 (n := 771) rfl ?_
    refine z_xald dL_law_771 (n := 772) rfl (by omega) (by omega) (by omega) ?_
    refine z_if_eq dL_law_772 (n := 775) (tg := 779) rfl (by decide) (by first | exact xz _ | assumption | exact ⟨by omega, by omega⟩ | exact zb_zr _) (fun c772 => ?_) (fun c772 => ?_)
    · exact absurd c772 hz
    · refine z_iconst dL_law_775 (n := 776) rfl ?_
      refine z_goto dL_law_776 (n := 780) (by decide) ?_
      refine z_callV3i dL_law_780 (n := 783) rfl mv_X7_see lk_L_97 rfl ⟨Nat.le_of_ble_eq_true rfl, Nat.le_of_ble_eq_true rfl, Nat.le_refl _, Nat.le_refl _⟩ (Nat.le_of_ble_eq_true rfl) (h2) (fun r u hp => ?_)
      obtain ⟨rfl, sz2, ar2, rfl, hI2⟩ := hp
      exact z_icmp_same dL_law_783 (tg := 907) (by decide) (K _ _ hI2)
theorem q_see {G : zG} {N i : Int} {sz : zSz} {ar : zAr} (h : IN N sz ar) (hN : N ≤ 1000) (h0 : 0 ≤ i) (h1 : i + 4 ≤ G.2.2.2.1) (hL : G.2.2.2.1 ≤ 2048) (K : ∀ sz2 ar2, IN (N + 1) sz2 ar2 → zW G mLaw zBL (zQL G) 907 [some (zR 95), some (zR 0), some (zR 41), some (zI i)] [] (X sz2 ar2)) : zW G mLaw zBL (zQL G) 729 [some (zR 95), some (zR 0), some (zR 41), some (zI i)] [] (X sz ar) := by
  by_cases hz : (G.2.2.2.2 (i + 3).toNat).toInt = 0
  · exact q_see0 h hN h0 h1 hL K hz
  · exact q_see1 h hN h0 h1 hL K hz
set_option maxHeartbeats 4000000 in
theorem q_forget {G : zG} {N i : Int} {sz : zSz} {ar : zAr} (h : IN N sz ar) (hN : N ≤ 1000) (h0 : 0 ≤ i) (h1 : i + 4 ≤ G.2.2.2.1) (hL : G.2.2.2.1 ≤ 2048) (K : ∀ sz2 ar2, IN (N + 1) sz2 ar2 → zW G mLaw zBL (zQL G) 907 [some (zR 95), some (zR 0), some (zR 41), some (zI i)] [] (X sz2 ar2)) : zW G mLaw zBL (zQL G) 788 [some (zR 95), some (zR 0), some (zR 41), some (zI i)] [] (X sz ar) := by
  refine z_aload_1 dL_law_788 (n := 789) rfl ?_
  refine z_callV0i dL_law_789 (n := 792) rfl mv_X6_forget lk_L_98 rfl ⟨Nat.le_of_ble_eq_true rfl, Nat.le_of_ble_eq_true rfl, Nat.le_refl _, Nat.le_refl _⟩ (Nat.le_of_ble_eq_true rfl) (p_forget h hN) (fun r u hp => ?_)
  obtain ⟨sz1, ar1, rfl, h2⟩ := hp
  refine z_aload_2 dL_law_792 (n := 793) rfl ?_
  refine z_callV0i dL_law_793 (n := 796) rfl mv_X7_forget lk_L_101 rfl ⟨Nat.le_of_ble_eq_true rfl, Nat.le_of_ble_eq_true rfl, Nat.le_refl _, Nat.le_refl _⟩ (Nat.le_of_ble_eq_true rfl) (h2) (fun r u hp => ?_)
  obtain ⟨rfl, sz2, ar2, rfl, hI2⟩ := hp
  exact z_icmp_same dL_law_796 (tg := 907) (by decide) (K _ _ hI2)
set_option maxHeartbeats 4000000 in
theorem q_drawn {G : zG} {N i : Int} {sz : zSz} {ar : zAr} (h : IN N sz ar) (hN : N ≤ 1000) (h0 : 0 ≤ i) (h1 : i + 4 ≤ G.2.2.2.1) (hL : G.2.2.2.1 ≤ 2048) (K : ∀ sz2 ar2, IN (N + 1) sz2 ar2 → zW G mLaw zBL (zQL G) 907 [some (zR 95), some (zR 0), some (zR 41), some (zI i)] [] (X sz2 ar2)) : zW G mLaw zBL (zQL G) 801 [some (zR 95), some (zR 0), some (zR 41), some (zI i)] [] (X sz ar) := by
  refine z_aload_1 dL_law_801 (n := 802) rfl ?_
  refine z_aload_0 dL_law_802 (n := 803) rfl ?_
  refine z_iload_3 dL_law_803 (n := 804) rfl ?_
  refine z_iconst dL_law_804 (n := 805) rfl ?_
  refine z_iadd dL_law_805 (n := 806) rfl ?_
  refine z_xald dL_law_806 (n := 807) rfl (by omega) (by omega) (by omega) ?_
  refine z_aload_0 dL_law_807 (n := 808) rfl ?_
  refine z_iload_3 dL_law_808 (n := 809) rfl ?_
  refine z_iconst dL_law_809 (n := 810) rfl ?_
  refine z_iadd dL_law_810 (n := 811) rfl ?_
  refine z_xald dL_law_811 (n := 812) rfl (by omega) (by omega) (by omega) ?_
  refine z_aload_0 dL_law_812 (n := 813) rfl ?_
  refine z_iload_3 dL_law_813 (n := 814) rfl ?_
  refine z_iconst dL_law_814 (n := 815) rfl ?_
  refine z_iadd dL_law_815 (n := 816) rfl ?_
  refine z_xald dL_law_816 (n := 817) rfl (by omega) (by omega) (by omega) ?_
  refine z_callV3i dL_law_817 (n := 820) rfl mv_X6_drawn lk_L_102 rfl ⟨Nat.le_of_ble_eq_true rfl, Nat.le_of_ble_eq_true rfl, Nat.le_refl _, Nat.le_refl _⟩ (Nat.le_of_ble_eq_true rfl) (p_drawn h hN (xz _) (xz _) (xz _)) (fun r u hp => ?_)
  obtain ⟨sz1, ar1, rfl, h2⟩ := hp
  refine z_aload_2 dL_law_820 (n := 821) rfl ?_
  refine z_aload_0 dL_law_821 (n := 822) rfl ?_
  refine z_iload_3 dL_law_822 (n := 823) rfl ?_
  refine z_iconst dL_law_823 (n := 824) rfl ?_
  refine z_iadd dL_law_824 (n := 825) rfl ?_
  refine z_xald dL_law_825 (n := 826) rfl (by omega) (by omega) (by omega) ?_
  refine z_aload_0 dL_law_826 (n := 827) rfl ?_
  refine z_iload_3 dL_law_827 (n := 828) rfl ?_
  refine z_iconst dL_law_828 (n := 829) rfl ?_
  refine z_iadd dL_law_829 (n := 830) rfl ?_
  refine z_xald dL_law_830 (n := 831) rfl (by omega) (by omega) (by omega) ?_
  refine z_aload_0 dL_law_831 (n := 832) rfl ?_
  refine z_iload_3 dL_law_832 (n := 833) rfl ?_
  refine z_iconst dL_law_833 (n := 834) rfl ?_
  refine z_iadd dL_law_834 (n := 835) rfl ?_
  refine z_xald dL_law_835 (n := 836) rfl (by omega) (by omega) (by omega) ?_
  refine z_callV3i dL_law_836 (n := 839) rfl mv_X7_drawn lk_L_105 rfl ⟨Nat.le_of_ble_eq_true rfl, Nat.le_of_ble_eq_true rfl, Nat.le_refl _, Nat.le_refl _⟩ (Nat.le_of_ble_eq_true rfl) (h2) (fun r u hp => ?_)
  obtain ⟨rfl, sz2, ar2, rfl, hI2⟩ := hp
  exact z_icmp_same dL_law_839 (tg := 907) (by decide) (K _ _ hI2)
set_option maxHeartbeats 4000000 in
theorem q_image {G : zG} {N i : Int} {sz : zSz} {ar : zAr} (h : IN N sz ar) (hN : N ≤ 1000) (h0 : 0 ≤ i) (h1 : i + 4 ≤ G.2.2.2.1) (hL : G.2.2.2.1 ≤ 2048) (K : ∀ sz2 ar2, IN (N + 1) sz2 ar2 → zW G mLaw zBL (zQL G) 907 [some (zR 95), some (zR 0), some (zR 41), some (zI i)] [] (X sz2 ar2)) : zW G mLaw zBL (zQL G) 844 [some (zR 95), some (zR 0), some (zR 41), some (zI i)] [] (X sz ar) := by
  refine z_aload_1 dL_law_844 (n := 845) rfl ?_
  refine z_callV0i dL_law_845 (n := 848) rfl mv_X6_image lk_L_106 rfl ⟨Nat.le_of_ble_eq_true rfl, Nat.le_of_ble_eq_true rfl, Nat.le_refl _, Nat.le_refl _⟩ (Nat.le_of_ble_eq_true rfl) (p_image h hN) (fun r u hp => ?_)
  obtain ⟨sz1, ar1, rfl, h2⟩ := hp
  refine z_aload_2 dL_law_848 (n := 849) rfl ?_
  refine z_callV0i dL_law_849 (n := 852) rfl mv_X7_image lk_L_109 rfl ⟨Nat.le_of_ble_eq_true rfl, Nat.le_of_ble_eq_true rfl, Nat.le_refl _, Nat.le_refl _⟩ (Nat.le_of_ble_eq_true rfl) (h2) (fun r u hp => ?_)
  obtain ⟨rfl, sz2, ar2, rfl, hI2⟩ := hp
  exact z_icmp_same dL_law_852 (tg := 907) (by decide) (K _ _ hI2)
set_option maxHeartbeats 4000000 in
theorem q_restore {G : zG} {N i : Int} {sz : zSz} {ar : zAr} (h : IN N sz ar) (hN : N ≤ 1000) (h0 : 0 ≤ i) (h1 : i + 4 ≤ G.2.2.2.1) (hL : G.2.2.2.1 ≤ 2048) (K : ∀ sz2 ar2, IN (N + 1) sz2 ar2 → zW G mLaw zBL (zQL G) 907 [some (zR 95), some (zR 0), some (zR 41), some (zI i)] [] (X sz2 ar2)) : zW G mLaw zBL (zQL G) 857 [some (zR 95), some (zR 0), some (zR 41), some (zI i)] [] (X sz ar) := by
  refine z_aload_1 dL_law_857 (n := 858) rfl ?_
  refine z_callV0i dL_law_858 (n := 861) rfl mv_X6_restore lk_L_110 rfl ⟨Nat.le_of_ble_eq_true rfl, Nat.le_of_ble_eq_true rfl, Nat.le_refl _, Nat.le_refl _⟩ (Nat.le_of_ble_eq_true rfl) (p_restore h hN) (fun r u hp => ?_)
  obtain ⟨sz1, ar1, rfl, h2⟩ := hp
  refine z_aload_2 dL_law_861 (n := 862) rfl ?_
  refine z_callV0i dL_law_862 (n := 865) rfl mv_X7_restore lk_L_113 rfl ⟨Nat.le_of_ble_eq_true rfl, Nat.le_of_ble_eq_true rfl, Nat.le_refl _, Nat.le_refl _⟩ (Nat.le_of_ble_eq_true rfl) (h2) (fun r u hp => ?_)
  obtain ⟨rfl, sz2, ar2, rfl, hI2⟩ := hp
  exact z_icmp_same dL_law_865 (tg := 907) (by decide) (K _ _ hI2)
set_option maxHeartbeats 4000000 in
theorem q_count {G : zG} {N i : Int} {sz : zSz} {ar : zAr} (h : IN N sz ar) (hN : N ≤ 1000) (h0 : 0 ≤ i) (h1 : i + 4 ≤ G.2.2.2.1) (hL : G.2.2.2.1 ≤ 2048) (K : ∀ sz2 ar2, IN (N + 1) sz2 ar2 → zW G mLaw zBL (zQL G) 907 [some (zR 95), some (zR 0), some (zR 41), some (zI i)] [] (X sz2 ar2)) : zW G mLaw zBL (zQL G) 870 [some (zR 95), some (zR 0), some (zR 41), some (zI i)] [] (X sz ar) := by
  refine z_aload_1 dL_law_870 (n := 871) rfl ?_
  refine z_aload_0 dL_law_871 (n := 872) rfl ?_
  refine z_iload_3 dL_law_872 (n := 873) rfl ?_
  refine z_iconst dL_law_873 (n := 874) rfl ?_
  refine z_iadd dL_law_874 (n := 875) rfl ?_
  refine z_xald dL_law_875 (n := 876) rfl (by omega) (by omega) (by omega) ?_
  refine z_callV1i dL_law_876 (n := 879) rfl mv_X6_count lk_L_114 rfl ⟨Nat.le_of_ble_eq_true rfl, Nat.le_of_ble_eq_true rfl, Nat.le_refl _, Nat.le_refl _⟩ (Nat.le_of_ble_eq_true rfl) (p_count h hN (xz _)) (fun r u hp => ?_)
  obtain ⟨sz1, ar1, rfl, h2⟩ := hp
  refine z_aload_2 dL_law_879 (n := 880) rfl ?_
  refine z_aload_0 dL_law_880 (n := 881) rfl ?_
  refine z_iload_3 dL_law_881 (n := 882) rfl ?_
  refine z_iconst dL_law_882 (n := 883) rfl ?_
  refine z_iadd dL_law_883 (n := 884) rfl ?_
  refine z_xald dL_law_884 (n := 885) rfl (by omega) (by omega) (by omega) ?_
  refine z_callV1i dL_law_885 (n := 888) rfl mv_X7_count lk_L_117 rfl ⟨Nat.le_of_ble_eq_true rfl, Nat.le_of_ble_eq_true rfl, Nat.le_refl _, Nat.le_refl _⟩ (Nat.le_of_ble_eq_true rfl) (h2) (fun r u hp => ?_)
  obtain ⟨rfl, sz2, ar2, rfl, hI2⟩ := hp
  exact z_icmp_same dL_law_888 (tg := 907) (by decide) (K _ _ hI2)
set_option maxHeartbeats 4000000 in
theorem q_digest {G : zG} {N i : Int} {sz : zSz} {ar : zAr} (h : IN N sz ar) (hN : N ≤ 1000) (h0 : 0 ≤ i) (h1 : i + 4 ≤ G.2.2.2.1) (hL : G.2.2.2.1 ≤ 2048) (K : ∀ sz2 ar2, IN (N + 1) sz2 ar2 → zW G mLaw zBL (zQL G) 907 [some (zR 95), some (zR 0), some (zR 41), some (zI i)] [] (X sz2 ar2)) : zW G mLaw zBL (zQL G) 893 [some (zR 95), some (zR 0), some (zR 41), some (zI i)] [] (X sz ar) := by
  refine z_aload_1 dL_law_893 (n := 894) rfl ?_
  refine z_callV0l dL_law_894 (n := 897) rfl mv_X6_digest lk_L_118 rfl ⟨Nat.le_of_ble_eq_true rfl, Nat.le_of_ble_eq_true rfl, Nat.le_refl _, Nat.le_refl _⟩ (Nat.le_of_ble_eq_true rfl) (p_digest h hN) (fun r u hp => ?_)
  obtain ⟨sz1, ar1, rfl, h2⟩ := hp
  refine z_aload_2 dL_law_897 (n := 898) rfl ?_
  refine z_callV0l dL_law_898 (n := 901) rfl mv_X7_digest lk_L_122 rfl ⟨Nat.le_of_ble_eq_true rfl, Nat.le_of_ble_eq_true rfl, Nat.le_refl _, Nat.le_refl _⟩ (Nat.le_of_ble_eq_true rfl) (h2) (fun r u hp => ?_)
  obtain ⟨rfl, sz2, ar2, rfl, hI2⟩ := hp
  exact z_lcmp_eq dL_law_901 (n := 902) rfl dL_law_902 (n2 := 905) (tg := 907) rfl (by decide) ⟨fun _ => rfl, fun _ => rfl⟩ (fun _ => K _ _ hI2) (fun z => absurd rfl z)
set_option maxHeartbeats 8000000 in
theorem law_loop {G : zG} (hL : G.2.2.2.1 ≤ 2048) : ∀ (m : Nat) (i : Int) (sz : zSz) (ar : zAr), 0 ≤ i → i ≤ 2048 → i % 4 = 0 → (G.2.2.2.1 : Int) < i + 4 * (m + 1) → IN (i / 4) sz ar → zW G mLaw zBL (zQL G) 18 [some (zR 95), some (zR 0), some (zR 41), some (zI i)] [] (X sz ar) := by
  intro m
  induction m with
  | zero =>
    intro i sz ar h0 h1 h4 hm hI
    refine z_iload_3 dL_law_18 (n := 19) rfl ?_
    refine z_aload_0 dL_law_19 (n := 20) rfl ?_
    refine z_xlen dL_law_20 (n := 21) rfl ?_
    refine z_iconst dL_law_21 (n := 22) rfl ?_
    refine z_isub dL_law_22 (n := 23) rfl ?_
    refine z_icmp_gt dL_law_23 (n := 26) (tg := 913) rfl (by decide) (by first | assumption | exact ⟨by omega, by omega⟩ | exact zb_zr _) (by first | assumption | exact ⟨by omega, by omega⟩ | exact zb_zr _) (fun c23 => ?_) (fun c23 => ?_)
    · refine z_iconst dL_law_913 (n := 914) rfl ?_
      exact z_lawret dL_law_914
    · exfalso; omega
  | succ m ih =>
    intro i sz ar h0 h1 h4 hm hI
    have hN : i / 4 ≤ 1000 := by omega
    have KK : i + 4 ≤ G.2.2.2.1 → ∀ sz2 ar2, IN (i / 4 + 1) sz2 ar2 → zW G mLaw zBL (zQL G) 907 [some (zR 95), some (zR 0), some (zR 41), some (zI i)] [] (X sz2 ar2) := by
      intro hle sz2 ar2 hI2
      rw [show i / 4 + 1 = (i + 4) / 4 by omega] at hI2
      have h9 := ih (i + 4) sz2 ar2 (by omega) (by omega) (by omega) (by omega) hI2
      refine z_iinc_3 dL_law_907 (n := 910) rfl (by decide) (fun w h => by cases h; try rfl) ?_
      refine z_goto dL_law_910 (n := 18) (by decide) ?_
      exact h9
    refine z_iload_3 dL_law_18 (n := 19) rfl ?_
    refine z_aload_0 dL_law_19 (n := 20) rfl ?_
    refine z_xlen dL_law_20 (n := 21) rfl ?_
    refine z_iconst dL_law_21 (n := 22) rfl ?_
    refine z_isub dL_law_22 (n := 23) rfl ?_
    refine z_icmp_gt dL_law_23 (n := 26) (tg := 913) rfl (by decide) (by first | assumption | exact ⟨by omega, by omega⟩ | exact zb_zr _) (by first | assumption | exact ⟨by omega, by omega⟩ | exact zb_zr _) (fun c23 => ?_) (fun c23 => ?_)
    · refine z_iconst dL_law_913 (n := 914) rfl ?_
      exact z_lawret dL_law_914
    · refine z_aload_0 dL_law_26 (n := 27) rfl ?_
      refine z_iload_3 dL_law_27 (n := 28) rfl ?_
      refine z_xald dL_law_28 (n := 29) rfl (by omega) (by omega) (by omega) ?_
      refine z_bipush dL_law_29 (n := 31) rfl (by decide) ?_
      refine z_iandG dL_law_31 (n := 32) rfl ?_
      have hle : i + 4 ≤ G.2.2.2.1 := by omega
      have K := KK hle
      have hvz := xz (Int32.ofInt (G.2.2.2.2 i.toNat).toInt &&& Int32.ofInt 31)
      generalize (Int32.ofInt (G.2.2.2.2 i.toNat).toInt &&& Int32.ofInt 31).toInt = v at hvz ⊢
      refine z_by (0) (fun q32 => ?_) (fun q32_0 => ?_)
      · refine z_tsIn (off := 120) (tg := 152) dL_law_32 (by first | assumption | exact ⟨by omega, by omega⟩ | exact zb_zr _) (by omega) (by omega) (by rw [q32]; rfl) (by decide) ?_
        exact q_letter hI hN h0 hle hL K
      · skip
        refine z_by (1) (fun q32 => ?_) (fun q32_1 => ?_)
        · refine z_tsIn (off := 143) (tg := 175) dL_law_32 (by first | assumption | exact ⟨by omega, by omega⟩ | exact zb_zr _) (by omega) (by omega) (by rw [q32]; rfl) (by decide) ?_
          exact q_blank hI hN h0 hle hL K
        · skip
          refine z_by (2) (fun q32 => ?_) (fun q32_2 => ?_)
          · refine z_tsIn (off := 156) (tg := 188) dL_law_32 (by first | assumption | exact ⟨by omega, by omega⟩ | exact zb_zr _) (by omega) (by omega) (by rw [q32]; rfl) (by decide) ?_
            exact q_fault hI hN h0 hle hL K
          · skip
            refine z_by (3) (fun q32 => ?_) (fun q32_3 => ?_)
            · refine z_tsIn (off := 169) (tg := 201) dL_law_32 (by first | assumption | exact ⟨by omega, by omega⟩ | exact zb_zr _) (by omega) (by omega) (by rw [q32]; rfl) (by decide) ?_
              exact q_machine hI hN h0 hle hL K
            · skip
              refine z_by (4) (fun q32 => ?_) (fun q32_4 => ?_)
              · refine z_tsIn (off := 182) (tg := 214) dL_law_32 (by first | assumption | exact ⟨by omega, by omega⟩ | exact zb_zr _) (by omega) (by omega) (by rw [q32]; rfl) (by decide) ?_
                exact q_word hI hN h0 hle hL K
              · skip
                refine z_by (5) (fun q32 => ?_) (fun q32_5 => ?_)
                · refine z_tsIn (off := 205) (tg := 237) dL_law_32 (by first | assumption | exact ⟨by omega, by omega⟩ | exact zb_zr _) (by omega) (by omega) (by rw [q32]; rfl) (by decide) ?_
                  exact q_state hI hN h0 hle hL K
                · skip
                  refine z_by (6) (fun q32 => ?_) (fun q32_6 => ?_)
                  · refine z_tsIn (off := 238) (tg := 270) dL_law_32 (by first | assumption | exact ⟨by omega, by omega⟩ | exact zb_zr _) (by omega) (by omega) (by rw [q32]; rfl) (by decide) ?_
                    exact q_as hI hN h0 hle hL K
                  · skip
                    refine z_by (7) (fun q32 => ?_) (fun q32_7 => ?_)
                    · refine z_tsIn (off := 271) (tg := 303) dL_law_32 (by first | assumption | exact ⟨by omega, by omega⟩ | exact zb_zr _) (by omega) (by omega) (by rw [q32]; rfl) (by decide) ?_
                      exact q_sign hI hN h0 hle hL K
                    · skip
                      refine z_by (8) (fun q32 => ?_) (fun q32_8 => ?_)
                      · refine z_tsIn (off := 304) (tg := 336) dL_law_32 (by first | assumption | exact ⟨by omega, by omega⟩ | exact zb_zr _) (by omega) (by omega) (by rw [q32]; rfl) (by decide) ?_
                        exact q_act hI hN h0 hle hL K
                      · skip
                        refine z_by (9) (fun q32 => ?_) (fun q32_9 => ?_)
                        · refine z_tsIn (off := 347) (tg := 379) dL_law_32 (by first | assumption | exact ⟨by omega, by omega⟩ | exact zb_zr _) (by omega) (by omega) (by rw [q32]; rfl) (by decide) ?_
                          exact q_flips hI hN h0 hle hL K
                        · skip
                          refine z_by (10) (fun q32 => ?_) (fun q32_10 => ?_)
                          · refine z_tsIn (off := 380) (tg := 412) dL_law_32 (by first | assumption | exact ⟨by omega, by omega⟩ | exact zb_zr _) (by omega) (by omega) (by rw [q32]; rfl) (by decide) ?_
                            exact q_round hI hN h0 hle hL K
                          · skip
                            refine z_by (11) (fun q32 => ?_) (fun q32_11 => ?_)
                            · refine z_tsIn (off := 423) (tg := 455) dL_law_32 (by first | assumption | exact ⟨by omega, by omega⟩ | exact zb_zr _) (by omega) (by omega) (by rw [q32]; rfl) (by decide) ?_
                              exact q_nothing hI hN h0 hle hL K
                            · skip
                              refine z_by (12) (fun q32 => ?_) (fun q32_12 => ?_)
                              · refine z_tsIn (off := 446) (tg := 478) dL_law_32 (by first | assumption | exact ⟨by omega, by omega⟩ | exact zb_zr _) (by omega) (by omega) (by rw [q32]; rfl) (by decide) ?_
                                exact q_alike hI hN h0 hle hL K
                              · skip
                                refine z_by (13) (fun q32 => ?_) (fun q32_13 => ?_)
                                · refine z_tsIn (off := 479) (tg := 511) dL_law_32 (by first | assumption | exact ⟨by omega, by omega⟩ | exact zb_zr _) (by omega) (by omega) (by rw [q32]; rfl) (by decide) ?_
                                  exact q_order hI hN h0 hle hL K
                                · skip
                                  refine z_by (14) (fun q32 => ?_) (fun q32_14 => ?_)
                                  · refine z_tsIn (off := 502) (tg := 534) dL_law_32 (by first | assumption | exact ⟨by omega, by omega⟩ | exact zb_zr _) (by omega) (by omega) (by rw [q32]; rfl) (by decide) ?_
                                    exact q_times hI hN h0 hle hL K
                                  · skip
                                    refine z_by (15) (fun q32 => ?_) (fun q32_15 => ?_)
                                    · refine z_tsIn (off := 545) (tg := 577) dL_law_32 (by first | assumption | exact ⟨by omega, by omega⟩ | exact zb_zr _) (by omega) (by omega) (by rw [q32]; rfl) (by decide) ?_
                                      exact q_undo hI hN h0 hle hL K
                                    · skip
                                      refine z_by (16) (fun q32 => ?_) (fun q32_16 => ?_)
                                      · refine z_tsIn (off := 578) (tg := 610) dL_law_32 (by first | assumption | exact ⟨by omega, by omega⟩ | exact zb_zr _) (by omega) (by omega) (by rw [q32]; rfl) (by decide) ?_
                                        exact q_section hI hN h0 hle hL K
                                      · skip
                                        refine z_by (17) (fun q32 => ?_) (fun q32_17 => ?_)
                                        · refine z_tsIn (off := 621) (tg := 653) dL_law_32 (by first | assumption | exact ⟨by omega, by omega⟩ | exact zb_zr _) (by omega) (by omega) (by rw [q32]; rfl) (by decide) ?_
                                          exact q_aim hI hN h0 hle hL K
                                        · skip
                                          refine z_by (18) (fun q32 => ?_) (fun q32_18 => ?_)
                                          · refine z_tsIn (off := 664) (tg := 696) dL_law_32 (by first | assumption | exact ⟨by omega, by omega⟩ | exact zb_zr _) (by omega) (by omega) (by rw [q32]; rfl) (by decide) ?_
                                            exact q_change hI hN h0 hle hL K
                                          · skip
                                            refine z_by (19) (fun q32 => ?_) (fun q32_19 => ?_)
                                            · refine z_tsIn (off := 697) (tg := 729) dL_law_32 (by first | assumption | exact ⟨by omega, by omega⟩ | exact zb_zr _) (by omega) (by omega) (by rw [q32]; rfl) (by decide) ?_
                                              exact q_see hI hN h0 hle hL K
                                            · skip
                                              refine z_by (20) (fun q32 => ?_) (fun q32_20 => ?_)
                                              · refine z_tsIn (off := 756) (tg := 788) dL_law_32 (by first | assumption | exact ⟨by omega, by omega⟩ | exact zb_zr _) (by omega) (by omega) (by rw [q32]; rfl) (by decide) ?_
                                                exact q_forget hI hN h0 hle hL K
                                              · skip
                                                refine z_by (21) (fun q32 => ?_) (fun q32_21 => ?_)
                                                · refine z_tsIn (off := 769) (tg := 801) dL_law_32 (by first | assumption | exact ⟨by omega, by omega⟩ | exact zb_zr _) (by omega) (by omega) (by rw [q32]; rfl) (by decide) ?_
                                                  exact q_drawn hI hN h0 hle hL K
                                                · skip
                                                  refine z_by (22) (fun q32 => ?_) (fun q32_22 => ?_)
                                                  · refine z_tsIn (off := 812) (tg := 844) dL_law_32 (by first | assumption | exact ⟨by omega, by omega⟩ | exact zb_zr _) (by omega) (by omega) (by rw [q32]; rfl) (by decide) ?_
                                                    exact q_image hI hN h0 hle hL K
                                                  · skip
                                                    refine z_by (23) (fun q32 => ?_) (fun q32_23 => ?_)
                                                    · refine z_tsIn (off := 825) (tg := 857) dL_law_32 (by first | assumption | exact ⟨by omega, by omega⟩ | exact zb_zr _) (by omega) (by omega) (by rw [q32]; rfl) (by decide) ?_
                                                      exact q_restore hI hN h0 hle hL K
                                                    · skip
                                                      refine z_by (24) (fun q32 => ?_) (fun q32_24 => ?_)
                                                      · refine z_tsIn (off := 838) (tg := 870) dL_law_32 (by first | assumption | exact ⟨by omega, by omega⟩ | exact zb_zr _) (by omega) (by omega) (by rw [q32]; rfl) (by decide) ?_
                                                        exact q_count hI hN h0 hle hL K
                                                      · skip
                                                        refine z_by (25) (fun q32 => ?_) (fun q32_25 => ?_)
                                                        · refine z_tsIn (off := 861) (tg := 893) dL_law_32 (by first | assumption | exact ⟨by omega, by omega⟩ | exact zb_zr _) (by omega) (by omega) (by rw [q32]; rfl) (by decide) ?_
                                                          exact q_digest hI hN h0 hle hL K
                                                        · skip
                                                          refine z_tsOut (tg := 907) dL_law_32 (by first | assumption | exact ⟨by omega, by omega⟩ | exact zb_zr _) (by omega) (by decide) ?_
                                                          refine K _ _ ?_
                                                          obtain ⟨ws, kw, hI9⟩ := hI
                                                          exact hI9.up2
