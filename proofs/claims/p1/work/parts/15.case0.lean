abbrev cL_law : ByteArray := code
theorem dL_law_2591 : decode cL_law 2591 = .ok (.iconst 1, 1) := by decide +kernel
theorem dL_law_2592 : decode cL_law 2592 = .ok (.ireturn, 1) := by decide +kernel
theorem dL_law_2585 : decode cL_law 2585 = .ok (.iinc 5 7, 3) := by decide +kernel
theorem dL_law_2588 : decode cL_law 2588 = .ok (.goto (-2560), 3) := by decide +kernel
theorem dL_law_28 : decode cL_law 28 = .ok (.iload 5, 2) := by decide +kernel
theorem dL_law_30 : decode cL_law 30 = .ok (.aload_n 0, 1) := by decide +kernel
theorem dL_law_31 : decode cL_law 31 = .ok (.arraylength, 1) := by decide +kernel
theorem dL_law_32 : decode cL_law 32 = .ok (.bipush 7, 2) := by decide +kernel
theorem dL_law_34 : decode cL_law 34 = .ok (.isub, 1) := by decide +kernel
theorem dL_law_35 : decode cL_law 35 = .ok (.if_icmp .gt 2556, 3) := by decide +kernel
theorem len7 {L : Nat} (hL : L ≤ 7) (h : ¬ (Int32.ofNat L - 7 < 0)) : L = 7 := by
  rcases (show L = 0 ∨ L = 1 ∨ L = 2 ∨ L = 3 ∨ L = 4 ∨ L = 5 ∨ L = 6 ∨ L = 7 by omega) with rfl | rfl | rfl | rfl | rfl | rfl | rfl | rfl
  · exact absurd (by decide) h
  · exact absurd (by decide) h
  · exact absurd (by decide) h
  · exact absurd (by decide) h
  · exact absurd (by decide) h
  · exact absurd (by decide) h
  · exact absurd (by decide) h
  · rfl
/-- the law says true -/
theorem law_ret {p : Program} {l : Launch} {e : Env} {s : State} {m : MethodId} {below : List Frame} {meth : Method} {c : Code} {b L : Nat} {xs : Nat → Int32} (C0 : lw_At p s m meth c b L xs) {A : Nat → Prop} (hA2 : ∀ q, A q → s.heap.size ≤ q) {H : Heap} {locs : List Loc} (hS : va_S A s.heap H locs) {ls : Array Slot} : W p l e room_1 s m #[Value.ref b] below meth c H locs 600002 7302232 (lw_Z below #[Value.ref b] s) (F0 m 2591 ls []) := by
  obtain ⟨hx, hb, hr, hml, hown, hts, hX, hbl, hlocks, hgv⟩ := C0
  refine lv_iconst (v := 1) hx hb dL_law_2591 (by decide) ?_
  refine va_forget (fun q hq => hA2 _ (hS.2.2 q hq)) ?_
  refine W.base ?_
  exact lw_ret (Drawn.sameBut.refl s.drawn lw_cs) hx hb hr hlocks dL_law_2592
/-- behind the one call: the loop ends -/
theorem law_end {p : Program} {l : Launch} {e : Env} {s : State} {m : MethodId} {below : List Frame} {meth : Method} {c : Code} {b : Nat} {xs : Nat → Int32} (C0 : lw_At p s m meth c b 7 xs) {A : Nat → Prop} (hA : ∀ q, s.heap.size ≤ q → A q) (hA2 : ∀ q, A q → s.heap.size ≤ q) {H : Heap} {locs : List Loc} (hS : va_S A s.heap H locs) {ls : Array Slot} (hl : lv_has ls 9 [(0, .ref b), (5, .int 0)]) : W p l e room_1 s m #[Value.ref b] below meth c H locs 600002 7302232 (lw_Z below #[Value.ref b] s) (F0 m 2585 ls []) := by
  obtain ⟨hx, hb, hr, hml, hown, hts, hX, hbl, hlocks, hgv⟩ := id C0
  have hbA : ¬ A b := fun h => Nat.not_le.mpr hbl (hA2 b h)
  refine lv_iinc (v := 7) (lv' := [(5, .int 7), (0, .ref b)]) hx hb dL_law_2585 hl (k := 1) rfl (by decide) (by decide) rfl (fun ls hl => ?_)
  refine lv_goto (tgt := 28) hx hb dL_law_2588 (by decide) ?_
  refine lv_iload hx hb dL_law_28 (lv_at hl 0 rfl) ?_
  refine lv_aload_n hx hb dL_law_30 rfl (lv_at hl 1 rfl) ?_
  refine va_slen hx hb hX hbl hbA hS dL_law_31 ?_
  refine lv_bipush (v := 7) hx hb dL_law_32 (by decide) ?_
  refine lv_isub hx hb dL_law_34 ?_
  refine W.eq (congrArg (fun z : Int32 => F0 m 35 ls (.int z :: [.int 7])) (by decide : Int32.ofNat 7 - 7 = 0)) ?_
  refine lv_icmp_gt (tgt := 2591) hx hb dL_law_35 (by decide) (fun c1 => ?_) (fun c1 => ?_)
  · exact law_ret C0 hA2 hS
  · exact absurd (by decide) c1
theorem dL_law_0 : decode cL_law 0 = .ok (.new 8, 3) := by decide +kernel
theorem q_39 : (Cond.classLink "NightfallVillageLaw" 8 "NightfallVillage") ∈ tw := tw_in (i := 39) (by decide +kernel) (by decide +kernel)
theorem q_40 : (Cond.instantiable "NightfallVillage" 8) ∈ tw := tw_in (i := 40) (by decide +kernel) (by decide +kernel)
theorem dL_law_3 : decode cL_law 3 = .ok (.dup, 1) := by decide +kernel
theorem dL_law_4 : decode cL_law 4 = .ok (.invokespecial 141, 3) := by decide +kernel
theorem q_43 : (Cond.code yX10_init cX10_init 1 none) ∈ tw := tw_in (i := 43) (by decide +kernel) (by decide +kernel)
theorem q_41 : (Cond.methodLink "NightfallVillageLaw" 141 yX10_init) ∈ tw := tw_in (i := 41) (by decide +kernel) (by decide +kernel)
theorem q_42 : (Cond.instanceMethod yX10_init) ∈ tw := tw_in (i := 42) (by decide +kernel) (by decide +kernel)
theorem dL_law_7 : decode cL_law 7 = .ok (.astore_n 1, 1) := by decide +kernel
theorem dL_law_8 : decode cL_law 8 = .ok (.new 142, 3) := by decide +kernel
theorem q_1265 : (Cond.classLink "NightfallVillageLaw" 142 "NightfallVillageModel") ∈ tw := tw_in (i := 1265) (by decide +kernel) (by decide +kernel)
theorem q_1266 : (Cond.instantiable "NightfallVillageModel" 26) ∈ tw := tw_in (i := 1266) (by decide +kernel) (by decide +kernel)
theorem dL_law_11 : decode cL_law 11 = .ok (.dup, 1) := by decide +kernel
theorem dL_law_12 : decode cL_law 12 = .ok (.invokespecial 144, 3) := by decide +kernel
theorem q_1269 : (Cond.code yX12_init cX12_init 1 none) ∈ tw := tw_in (i := 1269) (by decide +kernel) (by decide +kernel)
theorem q_1267 : (Cond.methodLink "NightfallVillageLaw" 144 yX12_init) ∈ tw := tw_in (i := 1267) (by decide +kernel) (by decide +kernel)
theorem q_1268 : (Cond.instanceMethod yX12_init) ∈ tw := tw_in (i := 1268) (by decide +kernel) (by decide +kernel)
theorem dL_law_15 : decode cL_law 15 = .ok (.astore_n 2, 1) := by decide +kernel
theorem dL_law_16 : decode cL_law 16 = .ok (.iconst 1, 1) := by decide +kernel
theorem dL_law_17 : decode cL_law 17 = .ok (.newarray .long, 2) := by decide +kernel
theorem q_1996 : (Cond.arrayClass Jvm.ClassFile.FieldType.long) ∈ tw := tw_in (i := 1996) (by decide +kernel) (by decide +kernel)
theorem dL_law_19 : decode cL_law 19 = .ok (.astore_n 3, 1) := by decide +kernel
theorem dL_law_20 : decode cL_law 20 = .ok (.iconst 1, 1) := by decide +kernel
theorem dL_law_21 : decode cL_law 21 = .ok (.newarray .double, 2) := by decide +kernel
theorem q_1997 : (Cond.arrayClass Jvm.ClassFile.FieldType.double) ∈ tw := tw_in (i := 1997) (by decide +kernel) (by decide +kernel)
theorem dL_law_23 : decode cL_law 23 = .ok (.astore 4, 2) := by decide +kernel
theorem dL_law_25 : decode cL_law 25 = .ok (.iconst 0, 1) := by decide +kernel
theorem dL_law_26 : decode cL_law 26 = .ok (.istore 5, 2) := by decide +kernel
theorem dL_law_216 : decode cL_law 216 = .ok (.aload_n 1, 1) := by decide +kernel
theorem dL_law_217 : decode cL_law 217 = .ok (.aload_n 0, 1) := by decide +kernel
theorem dL_law_218 : decode cL_law 218 = .ok (.iload 5, 2) := by decide +kernel
theorem dL_law_220 : decode cL_law 220 = .ok (.iconst 1, 1) := by decide +kernel
theorem dL_law_221 : decode cL_law 221 = .ok (.iadd, 1) := by decide +kernel
theorem dL_law_222 : decode cL_law 222 = .ok (.iaload, 1) := by decide +kernel
theorem dL_law_223 : decode cL_law 223 = .ok (.i2c, 1) := by decide +kernel
theorem dL_law_224 : decode cL_law 224 = .ok (.aload_n 0, 1) := by decide +kernel
theorem dL_law_225 : decode cL_law 225 = .ok (.iload 5, 2) := by decide +kernel
theorem dL_law_227 : decode cL_law 227 = .ok (.iconst 2, 1) := by decide +kernel
theorem dL_law_228 : decode cL_law 228 = .ok (.iadd, 1) := by decide +kernel
theorem dL_law_229 : decode cL_law 229 = .ok (.iaload, 1) := by decide +kernel
theorem dL_law_230 : decode cL_law 230 = .ok (.i2c, 1) := by decide +kernel
theorem dL_law_231 : decode cL_law 231 = .ok (.aload_n 0, 1) := by decide +kernel
theorem dL_law_232 : decode cL_law 232 = .ok (.iload 5, 2) := by decide +kernel
theorem dL_law_234 : decode cL_law 234 = .ok (.iconst 3, 1) := by decide +kernel
theorem dL_law_235 : decode cL_law 235 = .ok (.iadd, 1) := by decide +kernel
theorem dL_law_236 : decode cL_law 236 = .ok (.iaload, 1) := by decide +kernel
theorem dL_law_237 : decode cL_law 237 = .ok (.aload_n 0, 1) := by decide +kernel
theorem dL_law_238 : decode cL_law 238 = .ok (.iload 5, 2) := by decide +kernel
theorem dL_law_240 : decode cL_law 240 = .ok (.iconst 4, 1) := by decide +kernel
theorem dL_law_241 : decode cL_law 241 = .ok (.iadd, 1) := by decide +kernel
theorem dL_law_242 : decode cL_law 242 = .ok (.iaload, 1) := by decide +kernel
theorem dL_law_243 : decode cL_law 243 = .ok (.ifCond .eq 7, 3) := by decide +kernel
theorem dL_law_250 : decode cL_law 250 = .ok (.iconst 0, 1) := by decide +kernel
theorem dL_law_251 : decode cL_law 251 = .ok (.aload_n 0, 1) := by decide +kernel
theorem dL_law_252 : decode cL_law 252 = .ok (.iload 5, 2) := by decide +kernel
theorem dL_law_254 : decode cL_law 254 = .ok (.iconst 5, 1) := by decide +kernel
theorem dL_law_255 : decode cL_law 255 = .ok (.iadd, 1) := by decide +kernel
theorem dL_law_256 : decode cL_law 256 = .ok (.iaload, 1) := by decide +kernel
theorem dL_law_257 : decode cL_law 257 = .ok (.ifCond .eq 7, 3) := by decide +kernel
theorem dL_law_264 : decode cL_law 264 = .ok (.iconst 0, 1) := by decide +kernel
theorem dL_law_265 : decode cL_law 265 = .ok (.aload_n 0, 1) := by decide +kernel
theorem dL_law_266 : decode cL_law 266 = .ok (.iload 5, 2) := by decide +kernel
theorem dL_law_268 : decode cL_law 268 = .ok (.bipush 6, 2) := by decide +kernel
theorem dL_law_270 : decode cL_law 270 = .ok (.iadd, 1) := by decide +kernel
theorem dL_law_271 : decode cL_law 271 = .ok (.iaload, 1) := by decide +kernel
theorem dL_law_272 : decode cL_law 272 = .ok (.ifCond .eq 7, 3) := by decide +kernel
theorem dL_law_279 : decode cL_law 279 = .ok (.iconst 0, 1) := by decide +kernel
theorem dL_law_280 : decode cL_law 280 = .ok (.aload_n 3, 1) := by decide +kernel
theorem dL_law_281 : decode cL_law 281 = .ok (.invokestatic 145, 3) := by decide +kernel
theorem q_0 : (Cond.initialized "NightfallVillageLaw") ∈ tw := tw_in (i := 0) (by decide +kernel) (by decide +kernel)
theorem q_680 : (Cond.methodLink "NightfallVillageLaw" 145 yL_role) ∈ tw := tw_in (i := 680) (by decide +kernel) (by decide +kernel)
theorem q_681 : (Cond.static yL_role) ∈ tw := tw_in (i := 681) (by decide +kernel) (by decide +kernel)
theorem dL_law_284 : decode cL_law 284 = .ok (.istore 6, 2) := by decide +kernel
theorem dL_law_286 : decode cL_law 286 = .ok (.aload_n 2, 1) := by decide +kernel
theorem dL_law_287 : decode cL_law 287 = .ok (.aload_n 0, 1) := by decide +kernel
theorem dL_law_288 : decode cL_law 288 = .ok (.iload 5, 2) := by decide +kernel
theorem dL_law_290 : decode cL_law 290 = .ok (.iconst 1, 1) := by decide +kernel
theorem dL_law_291 : decode cL_law 291 = .ok (.iadd, 1) := by decide +kernel
theorem dL_law_292 : decode cL_law 292 = .ok (.iaload, 1) := by decide +kernel
theorem dL_law_293 : decode cL_law 293 = .ok (.i2c, 1) := by decide +kernel
theorem dL_law_294 : decode cL_law 294 = .ok (.aload_n 0, 1) := by decide +kernel
theorem dL_law_295 : decode cL_law 295 = .ok (.iload 5, 2) := by decide +kernel
theorem dL_law_297 : decode cL_law 297 = .ok (.iconst 2, 1) := by decide +kernel
theorem dL_law_298 : decode cL_law 298 = .ok (.iadd, 1) := by decide +kernel
theorem dL_law_299 : decode cL_law 299 = .ok (.iaload, 1) := by decide +kernel
theorem dL_law_300 : decode cL_law 300 = .ok (.i2c, 1) := by decide +kernel
theorem dL_law_301 : decode cL_law 301 = .ok (.aload_n 0, 1) := by decide +kernel
theorem dL_law_302 : decode cL_law 302 = .ok (.iload 5, 2) := by decide +kernel
theorem dL_law_304 : decode cL_law 304 = .ok (.iconst 3, 1) := by decide +kernel
theorem dL_law_305 : decode cL_law 305 = .ok (.iadd, 1) := by decide +kernel
theorem dL_law_306 : decode cL_law 306 = .ok (.iaload, 1) := by decide +kernel
theorem dL_law_307 : decode cL_law 307 = .ok (.aload_n 0, 1) := by decide +kernel
theorem dL_law_308 : decode cL_law 308 = .ok (.iload 5, 2) := by decide +kernel
theorem dL_law_310 : decode cL_law 310 = .ok (.iconst 4, 1) := by decide +kernel
theorem dL_law_311 : decode cL_law 311 = .ok (.iadd, 1) := by decide +kernel
theorem dL_law_312 : decode cL_law 312 = .ok (.iaload, 1) := by decide +kernel
theorem dL_law_313 : decode cL_law 313 = .ok (.ifCond .eq 7, 3) := by decide +kernel
theorem dL_law_320 : decode cL_law 320 = .ok (.iconst 0, 1) := by decide +kernel
theorem dL_law_321 : decode cL_law 321 = .ok (.aload_n 0, 1) := by decide +kernel
theorem dL_law_322 : decode cL_law 322 = .ok (.iload 5, 2) := by decide +kernel
theorem dL_law_324 : decode cL_law 324 = .ok (.iconst 5, 1) := by decide +kernel
theorem dL_law_325 : decode cL_law 325 = .ok (.iadd, 1) := by decide +kernel
theorem dL_law_326 : decode cL_law 326 = .ok (.iaload, 1) := by decide +kernel
theorem dL_law_327 : decode cL_law 327 = .ok (.ifCond .eq 7, 3) := by decide +kernel
theorem dL_law_334 : decode cL_law 334 = .ok (.iconst 0, 1) := by decide +kernel
theorem dL_law_335 : decode cL_law 335 = .ok (.aload_n 0, 1) := by decide +kernel
theorem dL_law_336 : decode cL_law 336 = .ok (.iload 5, 2) := by decide +kernel
theorem dL_law_338 : decode cL_law 338 = .ok (.bipush 6, 2) := by decide +kernel
theorem dL_law_340 : decode cL_law 340 = .ok (.iadd, 1) := by decide +kernel
theorem dL_law_341 : decode cL_law 341 = .ok (.iaload, 1) := by decide +kernel
theorem dL_law_342 : decode cL_law 342 = .ok (.ifCond .eq 7, 3) := by decide +kernel
theorem dL_law_349 : decode cL_law 349 = .ok (.iconst 0, 1) := by decide +kernel
theorem dL_law_350 : decode cL_law 350 = .ok (.invokevirtual 150, 3) := by decide +kernel
theorem q_1386 : (Cond.code yX12_role cX12_role 7 (some .int)) ∈ tw := tw_in (i := 1386) (by decide +kernel) (by decide +kernel)
theorem q_1383 : (Cond.methodLink "NightfallVillageLaw" 150 yX12_role) ∈ tw := tw_in (i := 1383) (by decide +kernel) (by decide +kernel)
theorem q_1384 : (Cond.instanceMethod yX12_role) ∈ tw := tw_in (i := 1384) (by decide +kernel) (by decide +kernel)
theorem q_1385 : (Cond.selects "NightfallVillageModel" yX12_role yX12_role) ∈ tw := tw_in (i := 1385) (by decide +kernel) (by decide +kernel)
theorem dL_law_353 : decode cL_law 353 = .ok (.istore 7, 2) := by decide +kernel
theorem dL_law_355 : decode cL_law 355 = .ok (.aload_n 2, 1) := by decide +kernel
theorem dL_law_356 : decode cL_law 356 = .ok (.invokevirtual 151, 3) := by decide +kernel
theorem q_1264 : (Cond.code yX12_thrown cX12_thrown 1 (some .int)) ∈ tw := tw_in (i := 1264) (by decide +kernel) (by decide +kernel)
theorem q_1261 : (Cond.methodLink "NightfallVillageLaw" 151 yX12_thrown) ∈ tw := tw_in (i := 1261) (by decide +kernel) (by decide +kernel)
theorem q_1262 : (Cond.instanceMethod yX12_thrown) ∈ tw := tw_in (i := 1262) (by decide +kernel) (by decide +kernel)
theorem q_1263 : (Cond.selects "NightfallVillageModel" yX12_thrown yX12_thrown) ∈ tw := tw_in (i := 1263) (by decide +kernel) (by decide +kernel)
theorem dL_law_359 : decode cL_law 359 = .ok (.iload 6, 2) := by decide +kernel
theorem dL_law_361 : decode cL_law 361 = .ok (.if_icmp .eq 5, 3) := by decide +kernel
theorem dL_law_366 : decode cL_law 366 = .ok (.iload 6, 2) := by decide +kernel
theorem dL_law_368 : decode cL_law 368 = .ok (.ifCond .ne 15, 3) := by decide +kernel
theorem dL_law_371 : decode cL_law 371 = .ok (.aload_n 3, 1) := by decide +kernel
theorem dL_law_372 : decode cL_law 372 = .ok (.iconst 0, 1) := by decide +kernel
theorem dL_law_373 : decode cL_law 373 = .ok (.laload, 1) := by decide +kernel
theorem dL_law_374 : decode cL_law 374 = .ok (.iload 7, 2) := by decide +kernel
theorem dL_law_376 : decode cL_law 376 = .ok (.i2l, 1) := by decide +kernel
theorem dL_law_377 : decode cL_law 377 = .ok (.lcmp, 1) := by decide +kernel
theorem dL_law_378 : decode cL_law 378 = .ok (.ifCond .eq 5, 3) := by decide +kernel
theorem dL_law_383 : decode cL_law 383 = .ok (.goto 2202, 3) := by decide +kernel
theorem dL_law_275 : decode cL_law 275 = .ok (.iconst 1, 1) := by decide +kernel
theorem dL_law_276 : decode cL_law 276 = .ok (.goto 4, 3) := by decide +kernel
theorem dL_law_345 : decode cL_law 345 = .ok (.iconst 1, 1) := by decide +kernel
theorem dL_law_346 : decode cL_law 346 = .ok (.goto 4, 3) := by decide +kernel
theorem dL_law_260 : decode cL_law 260 = .ok (.iconst 1, 1) := by decide +kernel
theorem dL_law_261 : decode cL_law 261 = .ok (.goto 4, 3) := by decide +kernel
theorem dL_law_330 : decode cL_law 330 = .ok (.iconst 1, 1) := by decide +kernel
theorem dL_law_331 : decode cL_law 331 = .ok (.goto 4, 3) := by decide +kernel
theorem dL_law_246 : decode cL_law 246 = .ok (.iconst 1, 1) := by decide +kernel
theorem dL_law_247 : decode cL_law 247 = .ok (.goto 4, 3) := by decide +kernel
theorem dL_law_316 : decode cL_law 316 = .ok (.iconst 1, 1) := by decide +kernel
theorem dL_law_317 : decode cL_law 317 = .ok (.goto 4, 3) := by decide +kernel
set_option maxHeartbeats 8000000 in
set_option maxRecDepth 100000 in
theorem law_case_0 {p : Program} {l : Launch} {e : Env} {s : State} {m : MethodId} {below : List Frame} {meth : Method} {c : Code} (hst : l.stackTraces = false) {tE : Nat} {adK adV : Nat → Nat} {dC : Nat → ClassId} {dI : Nat → Nat → Nat} {b : Nat} {xs : Nat → Int32} (C0 : lw_At p s m meth c b 7 xs) {A : Nat → Prop} (hA : ∀ q, s.heap.size ≤ q → A q) (hA2 : ∀ q, A q → s.heap.size ≤ q) (ham : am tE adK adV A s s.heap) {w0 : Nat} {w1 : Nat} {w2 : Nat} {w3 : Nat} {w4 : Nat} {w5 : Nat} {w6 : Nat} {w7 : Nat} {w8 : Nat} {w9 : Nat} {w10 : Nat} {w11 : Nat} {w12 : Nat} {w13 : Nat} {w14 : Nat} {w15 : Nat} {w16 : ClassId} {w17 : ClassId} {w18 : ClassId} {w19 : ClassId} {w20 : ClassId} {w21 : ClassId} {w22 : ClassId} {w23 : Nat} {w24 : Nat} {w25 : Nat} {w26 : Nat} {w27 : Nat} {w28 : Nat} {w29 : Nat} {w30 : Nat} {w31 : Nat} {w32 : Nat} {w33 : Nat} {w34 : Nat} {w35 : Nat} {w36 : Nat} {w37 : Nat} {w38 : Nat} {w39 : Nat} {w40 : Nat} {w41 : Nat} {w42 : Nat} {w43 : Nat} {w44 : Nat} {w45 : Nat} {w46 : Nat} {w47 : Nat} {w48 : Nat} {w49 : Nat} {w50 : Nat} {w51 : Nat} {w52 : Nat} {w53 : ClassId} {w54 : Nat} {w55 : ClassId} {H : Heap} {locs : List Loc} (hK : va_K (dC, dI) cls [(w16, .char), (w17, .char), (w18, .int), (w19, .boolean), (w20, .boolean), (w21, .boolean), (w22, .int), (w53, .long), (w55, .double)] s) (hP : va_P (dC, dI) cls [(w0, .inr (10, [.ref w1, .ref w2, .ref w3, .ref w4, .ref w5, .ref w6, .ref w7, .ref w8])), (w1, .inr (7, [.ref w9, .ref w10, .ref w11, .ref w12, .ref w13, .ref w14, .ref w15, .int 0])), (w9, .inl (w16, 8, .inl (fun _ => 0))), (w10, .inl (w17, 8, .inl (fun _ => 0))), (w11, .inl (w18, 8, .inl (fun _ => 0))), (w12, .inl (w19, 8, .inl (fun _ => 0))), (w13, .inl (w20, 8, .inl (fun _ => 0))), (w14, .inl (w21, 8, .inl (fun _ => 0))), (w15, .inl (w22, 8, .inl (fun _ => 0))), (w2, .inr (2, [.ref w23, .ref w24, .ref w25, .int 0, .int (-1), .int (-1)])), (w3, .inr (4, [.ref w26, .ref w27, .ref w28, .int 0, .int 0, .int 0, .int 45])), (w26, .inr (3, [.ref w1, .ref w2, .ref w29, .ref w30, .ref w31, .ref w32, .ref w33, .int 0, .int 0])), (w34, .inr (12, [.int 0, .ref w35, .ref w36, .ref w37, .int (-1), .int (-1), .int 0, .ref w38, .ref w39, .ref w40, .ref w41, .ref w42, .ref w43, .ref w44, .ref w45, .ref w46, .int 0, .int 0, .null, .int 0, .int 45, .ref w47, .ref w48, .ref w49, .ref w50, .ref w51])), (w35, .inr (14, [.int 0, .ref tE, .int 0])), (w36, .inr (14, [.int 0, .ref tE, .int 0])), (w52, .inl (w53, 1, .inr (.inl (fun _ => 0)))), (w54, .inl (w55, 1, .inr (.inr (.inr (.inl (fun _ => 0))))))] H) (hD : va_D A [(w0, .inr (10, [.ref w1, .ref w2, .ref w3, .ref w4, .ref w5, .ref w6, .ref w7, .ref w8])), (w1, .inr (7, [.ref w9, .ref w10, .ref w11, .ref w12, .ref w13, .ref w14, .ref w15, .int 0])), (w9, .inl (w16, 8, .inl (fun _ => 0))), (w10, .inl (w17, 8, .inl (fun _ => 0))), (w11, .inl (w18, 8, .inl (fun _ => 0))), (w12, .inl (w19, 8, .inl (fun _ => 0))), (w13, .inl (w20, 8, .inl (fun _ => 0))), (w14, .inl (w21, 8, .inl (fun _ => 0))), (w15, .inl (w22, 8, .inl (fun _ => 0))), (w2, .inr (2, [.ref w23, .ref w24, .ref w25, .int 0, .int (-1), .int (-1)])), (w3, .inr (4, [.ref w26, .ref w27, .ref w28, .int 0, .int 0, .int 0, .int 45])), (w26, .inr (3, [.ref w1, .ref w2, .ref w29, .ref w30, .ref w31, .ref w32, .ref w33, .int 0, .int 0])), (w34, .inr (12, [.int 0, .ref w35, .ref w36, .ref w37, .int (-1), .int (-1), .int 0, .ref w38, .ref w39, .ref w40, .ref w41, .ref w42, .ref w43, .ref w44, .ref w45, .ref w46, .int 0, .int 0, .null, .int 0, .int 45, .ref w47, .ref w48, .ref w49, .ref w50, .ref w51])), (w35, .inr (14, [.int 0, .ref tE, .int 0])), (w36, .inr (14, [.int 0, .ref tE, .int 0])), (w52, .inl (w53, 1, .inr (.inl (fun _ => 0)))), (w54, .inl (w55, 1, .inr (.inr (.inr (.inl (fun _ => 0))))))]) (hS : va_S A s.heap H locs) {ls : Array Slot} (hl : lv_has ls 9 [(5, .int 0), (4, .ref w54), (3, .ref w52), (2, .ref w34), (1, .ref w0), (0, .ref b)]) : W p l e room_1 s m #[Value.ref b] below meth c H locs 91 4902 (lw_Z below #[Value.ref b] s) (F0 m 216 ls []) := by
  obtain ⟨hx, hb, hr, hml, hown0, hts, hX, hbl, hlocks, hgv⟩ := id C0
  have hq : ∀ w ∈ tw, w.before #[Value.ref b] s = true := tw_of hts
  have hown : s.vm.findClass RL = some m.cls := hown0
  have hbA : ¬ A b := fun h => Nat.not_le.mpr hbl (hA2 b h)
  by_cases hok : okR ((xs (1 : Int32).toNatClampNeg).toUInt32 % 65536).toInt32 ((xs (2 : Int32).toNatClampNeg).toUInt32 % 65536).toInt32 (xs (3 : Int32).toNatClampNeg)
  · refine lv_aload_n hx hb dL_law_216 rfl (lv_at hl 4 rfl) ?_
    refine lv_aload_n hx hb dL_law_217 rfl (lv_at hl 5 rfl) ?_
    refine lv_iload hx hb dL_law_218 (lv_at hl 0 rfl) ?_
    refine lv_iconst (v := 1) hx hb dL_law_220 (by decide) ?_
    refine lv_iadd hx hb dL_law_221 ?_
    refine W.eq (congrArg (fun z : Int32 => F0 m 222 ls (.int z :: [.ref b, .ref w0])) (by decide : (0 + 1 : Int32) = 1)) ?_
    refine va_sld hx hb hX hbl hbA hS (i := 1) (by unfold vp_in; decide) dL_law_222 ?_
    refine lv_i2c (v := ((xs (1 : Int32).toNatClampNeg).toUInt32 % 65536).toInt32) hx hb dL_law_223 rfl ?_
    refine lv_aload_n hx hb dL_law_224 rfl (lv_at hl 5 rfl) ?_
    refine lv_iload hx hb dL_law_225 (lv_at hl 0 rfl) ?_
    refine lv_iconst (v := 2) hx hb dL_law_227 (by decide) ?_
    refine lv_iadd hx hb dL_law_228 ?_
    refine W.eq (congrArg (fun z : Int32 => F0 m 229 ls (.int z :: [.ref b, .int (((xs (1 : Int32).toNatClampNeg).toUInt32 % 65536).toInt32), .ref w0])) (by decide : (0 + 2 : Int32) = 2)) ?_
    refine va_sld hx hb hX hbl hbA hS (i := 2) (by unfold vp_in; decide) dL_law_229 ?_
    refine lv_i2c (v := ((xs (2 : Int32).toNatClampNeg).toUInt32 % 65536).toInt32) hx hb dL_law_230 rfl ?_
    refine lv_aload_n hx hb dL_law_231 rfl (lv_at hl 5 rfl) ?_
    refine lv_iload hx hb dL_law_232 (lv_at hl 0 rfl) ?_
    refine lv_iconst (v := 3) hx hb dL_law_234 (by decide) ?_
    refine lv_iadd hx hb dL_law_235 ?_
    refine W.eq (congrArg (fun z : Int32 => F0 m 236 ls (.int z :: [.ref b, .int (((xs (2 : Int32).toNatClampNeg).toUInt32 % 65536).toInt32), .int (((xs (1 : Int32).toNatClampNeg).toUInt32 % 65536).toInt32), .ref w0])) (by decide : (0 + 3 : Int32) = 3)) ?_
    refine va_sld hx hb hX hbl hbA hS (i := 3) (by unfold vp_in; decide) dL_law_236 ?_
    refine lv_aload_n hx hb dL_law_237 rfl (lv_at hl 5 rfl) ?_
    refine lv_iload hx hb dL_law_238 (lv_at hl 0 rfl) ?_
    refine lv_iconst (v := 4) hx hb dL_law_240 (by decide) ?_
    refine lv_iadd hx hb dL_law_241 ?_
    refine W.eq (congrArg (fun z : Int32 => F0 m 242 ls (.int z :: [.ref b, .int (xs (3 : Int32).toNatClampNeg), .int (((xs (2 : Int32).toNatClampNeg).toUInt32 % 65536).toInt32), .int (((xs (1 : Int32).toNatClampNeg).toUInt32 % 65536).toInt32), .ref w0])) (by decide : (0 + 4 : Int32) = 4)) ?_
    refine va_sld hx hb hX hbl hbA hS (i := 4) (by unfold vp_in; decide) dL_law_242 ?_
    refine lv_if_eq (tgt := 250) hx hb dL_law_243 (by decide) (fun c_1 => ?_) (fun c_1 => ?_)
    · refine lv_iconst (v := 0) hx hb dL_law_250 (by decide) ?_
      refine lv_aload_n hx hb dL_law_251 rfl (lv_at hl 5 rfl) ?_
      refine lv_iload hx hb dL_law_252 (lv_at hl 0 rfl) ?_
      refine lv_iconst (v := 5) hx hb dL_law_254 (by decide) ?_
      refine lv_iadd hx hb dL_law_255 ?_
      refine W.eq (congrArg (fun z : Int32 => F0 m 256 ls (.int z :: [.ref b, .int 0, .int (xs (3 : Int32).toNatClampNeg), .int (((xs (2 : Int32).toNatClampNeg).toUInt32 % 65536).toInt32), .int (((xs (1 : Int32).toNatClampNeg).toUInt32 % 65536).toInt32), .ref w0])) (by decide : (0 + 5 : Int32) = 5)) ?_
      refine va_sld hx hb hX hbl hbA hS (i := 5) (by unfold vp_in; decide) dL_law_256 ?_
      refine lv_if_eq (tgt := 264) hx hb dL_law_257 (by decide) (fun c_2 => ?_) (fun c_2 => ?_)
      · refine lv_iconst (v := 0) hx hb dL_law_264 (by decide) ?_
        refine lv_aload_n hx hb dL_law_265 rfl (lv_at hl 5 rfl) ?_
        refine lv_iload hx hb dL_law_266 (lv_at hl 0 rfl) ?_
        refine lv_bipush (v := 6) hx hb dL_law_268 (by decide) ?_
        refine lv_iadd hx hb dL_law_270 ?_
        refine W.eq (congrArg (fun z : Int32 => F0 m 271 ls (.int z :: [.ref b, .int 0, .int 0, .int (xs (3 : Int32).toNatClampNeg), .int (((xs (2 : Int32).toNatClampNeg).toUInt32 % 65536).toInt32), .int (((xs (1 : Int32).toNatClampNeg).toUInt32 % 65536).toInt32), .ref w0])) (by decide : (0 + 6 : Int32) = 6)) ?_
        refine va_sld hx hb hX hbl hbA hS (i := 6) (by unfold vp_in; decide) dL_law_271 ?_
        refine lv_if_eq (tgt := 279) hx hb dL_law_272 (by decide) (fun c_3 => ?_) (fun c_3 => ?_)
        · refine lv_iconst (v := 0) hx hb dL_law_279 (by decide) ?_
          refine lv_aload_n hx hb dL_law_280 rfl (lv_at hl 2 rfl) ?_
          have hPc := hP.sub (ws' := [(w0, .inr (10, [.ref w1, .ref w2, .ref w3, .ref w4, .ref w5, .ref w6, .ref w7, .ref w8])), (w1, .inr (7, [.ref w9, .ref w10, .ref w11, .ref w12, .ref w13, .ref w14, .ref w15, .int 0])), (w9, .inl (w16, 8, .inl (fun _ => 0))), (w10, .inl (w17, 8, .inl (fun _ => 0))), (w11, .inl (w18, 8, .inl (fun _ => 0))), (w12, .inl (w19, 8, .inl (fun _ => 0))), (w13, .inl (w20, 8, .inl (fun _ => 0))), (w14, .inl (w21, 8, .inl (fun _ => 0))), (w15, .inl (w22, 8, .inl (fun _ => 0))), (w2, .inr (2, [.ref w23, .ref w24, .ref w25, .int 0, .int (-1), .int (-1)])), (w3, .inr (4, [.ref w26, .ref w27, .ref w28, .int 0, .int 0, .int 0, .int 45])), (w26, .inr (3, [.ref w1, .ref w2, .ref w29, .ref w30, .ref w31, .ref w32, .ref w33, .int 0, .int 0])), (w52, .inl (w53, 1, .inr (.inl (fun _ => 0))))]) [0, 1, 2, 3, 4, 5, 6, 7, 8, 9, 10, 11, 15] rfl
          have hKc := hK.sub (tys' := [(w16, .char), (w17, .char), (w18, .int), (w19, .boolean), (w20, .boolean), (w21, .boolean), (w22, .int), (w53, .long)]) [0, 1, 2, 3, 4, 5, 6, 7] rfl
          have hDc := hD.sub (ws' := [(w0, .inr (10, [.ref w1, .ref w2, .ref w3, .ref w4, .ref w5, .ref w6, .ref w7, .ref w8])), (w1, .inr (7, [.ref w9, .ref w10, .ref w11, .ref w12, .ref w13, .ref w14, .ref w15, .int 0])), (w9, .inl (w16, 8, .inl (fun _ => 0))), (w10, .inl (w17, 8, .inl (fun _ => 0))), (w11, .inl (w18, 8, .inl (fun _ => 0))), (w12, .inl (w19, 8, .inl (fun _ => 0))), (w13, .inl (w20, 8, .inl (fun _ => 0))), (w14, .inl (w21, 8, .inl (fun _ => 0))), (w15, .inl (w22, 8, .inl (fun _ => 0))), (w2, .inr (2, [.ref w23, .ref w24, .ref w25, .int 0, .int (-1), .int (-1)])), (w3, .inr (4, [.ref w26, .ref w27, .ref w28, .int 0, .int 0, .int 0, .int 45])), (w26, .inr (3, [.ref w1, .ref w2, .ref w29, .ref w30, .ref w31, .ref w32, .ref w33, .int 0, .int 0])), (w52, .inl (w53, 1, .inr (.inl (fun _ => 0))))]) [0, 1, 2, 3, 4, 5, 6, 7, 8, 9, 10, 11, 15] (by decide) rfl
          have hFc := va_free (wc := [(w0, .inr (10, [.ref w1, .ref w2, .ref w3, .ref w4, .ref w5, .ref w6, .ref w7, .ref w8])), (w1, .inr (7, [.ref w9, .ref w10, .ref w11, .ref w12, .ref w13, .ref w14, .ref w15, .int 0])), (w9, .inl (w16, 8, .inl (fun _ => 0))), (w10, .inl (w17, 8, .inl (fun _ => 0))), (w11, .inl (w18, 8, .inl (fun _ => 0))), (w12, .inl (w19, 8, .inl (fun _ => 0))), (w13, .inl (w20, 8, .inl (fun _ => 0))), (w14, .inl (w21, 8, .inl (fun _ => 0))), (w15, .inl (w22, 8, .inl (fun _ => 0))), (w2, .inr (2, [.ref w23, .ref w24, .ref w25, .int 0, .int (-1), .int (-1)])), (w3, .inr (4, [.ref w26, .ref w27, .ref w28, .int 0, .int 0, .int 0, .int 45])), (w26, .inr (3, [.ref w1, .ref w2, .ref w29, .ref w30, .ref w31, .ref w32, .ref w33, .int 0, .int 0])), (w52, .inl (w53, 1, .inr (.inl (fun _ => 0))))]) hD hS hA [0, 1, 2, 3, 4, 5, 6, 7, 8, 9, 10, 11, 15] rfl
          refine vx_calli (vx_runSX (As := [.ref w0, .int (((xs (1 : Int32).toNatClampNeg).toUInt32 % 65536).toInt32), .int (((xs (2 : Int32).toNatClampNeg).toUInt32 % 65536).toInt32), .int (xs (3 : Int32).toNatClampNeg), .int 0, .int 0, .int 0, .ref w52]) (rest := []) ⟨hx, hb, hml, hown, hq⟩ (c_L_role_ok l hst tE adK adV dC dI w0 w1 w2 w3 w4 w5 w6 w7 w8 w9 w10 w11 w12 w13 w14 w15 w16 w17 w18 w19 w20 w21 w22 w23 w24 w25 w26 w27 w28 w29 w30 w31 w32 w33 w52 w53 (fun _ => 0) (((xs (1 : Int32).toNatClampNeg).toUInt32 % 65536).toInt32) (((xs (2 : Int32).toNatClampNeg).toUInt32 % 65536).toInt32) (xs (3 : Int32).toNatClampNeg) 0 0 0 hok H.size) (tcSW 8 hq q_682 q_0 q_680 q_681 rfl rfl (by decide +kernel) ⟨Nat.le_of_ble_eq_true rfl, Nat.le_of_ble_eq_true rfl⟩) (pre.S (pre.of hPc hDc hKc ham hS hFc)) rfl rfl hl.1 rfl (lv_room (Nat.le_of_ble_eq_true rfl)) dL_law_281 ⟨Nat.le_of_ble_eq_true rfl, Nat.le_of_ble_eq_true rfl⟩) hS (fun q _ h => hFc q h) hFc (fun q _ h => hFc q h) (fun E ce q9 u t H1 locs ht hvm hpx hB hz1 hk1 hS hce hcv hcl => ?_) (fun r_4 u t H1 locs ht hvm hw hB hz1 hk1 hS => ?_)
          · exact (hB : False).elim
          · obtain ⟨hP1, hK1, hD1⟩ := hB
            rw [ht] at hP1
            have hK1 := va_K.moved hvm.symm hK1
            obtain ⟨hP, hD⟩ := va_join (wr := [(w34, .inr (12, [.int 0, .ref w35, .ref w36, .ref w37, .int (-1), .int (-1), .int 0, .ref w38, .ref w39, .ref w40, .ref w41, .ref w42, .ref w43, .ref w44, .ref w45, .ref w46, .int 0, .int 0, .null, .int 0, .int 45, .ref w47, .ref w48, .ref w49, .ref w50, .ref w51])), (w35, .inr (14, [.int 0, .ref tE, .int 0])), (w36, .inr (14, [.int 0, .ref tE, .int 0])), (w54, .inl (w55, 1, .inr (.inr (.inr (.inl (fun _ => 0))))))]) (w1 := [(w52, .inl (w53, 1, .inr (.inl (vp_updL (fun _ => 0) (0 : Int32).toNatClampNeg 0))))]) (wc := [(w0, .inr (10, [.ref w1, .ref w2, .ref w3, .ref w4, .ref w5, .ref w6, .ref w7, .ref w8])), (w1, .inr (7, [.ref w9, .ref w10, .ref w11, .ref w12, .ref w13, .ref w14, .ref w15, .int 0])), (w9, .inl (w16, 8, .inl (fun _ => 0))), (w10, .inl (w17, 8, .inl (fun _ => 0))), (w11, .inl (w18, 8, .inl (fun _ => 0))), (w12, .inl (w19, 8, .inl (fun _ => 0))), (w13, .inl (w20, 8, .inl (fun _ => 0))), (w14, .inl (w21, 8, .inl (fun _ => 0))), (w15, .inl (w22, 8, .inl (fun _ => 0))), (w2, .inr (2, [.ref w23, .ref w24, .ref w25, .int 0, .int (-1), .int (-1)])), (w3, .inr (4, [.ref w26, .ref w27, .ref w28, .int 0, .int 0, .int 0, .int 45])), (w26, .inr (3, [.ref w1, .ref w2, .ref w29, .ref w30, .ref w31, .ref w32, .ref w33, .int 0, .int 0])), (w52, .inl (w53, 1, .inr (.inl (fun _ => 0))))]) hP hD [0, 1, 2, 3, 4, 5, 6, 7, 8, 9, 10, 11, 15] [12, 13, 14, 16] rfl rfl (by decide) (by decide) hk1 hFc hP1 hD1
            have hK := (hK.sub (tys' := [(w16, .char), (w17, .char), (w18, .int), (w19, .boolean), (w20, .boolean), (w21, .boolean), (w22, .int), (w53, .long), (w55, .double)]) [0, 1, 2, 3, 4, 5, 6, 7, 8] rfl).app hK1
            generalize H1 = H at hP hS ⊢
            have hP : va_P (dC, dI) cls [(w34, .inr (12, [.int 0, .ref w35, .ref w36, .ref w37, .int (-1), .int (-1), .int 0, .ref w38, .ref w39, .ref w40, .ref w41, .ref w42, .ref w43, .ref w44, .ref w45, .ref w46, .int 0, .int 0, .null, .int 0, .int 45, .ref w47, .ref w48, .ref w49, .ref w50, .ref w51])), (w35, .inr (14, [.int 0, .ref tE, .int 0])), (w36, .inr (14, [.int 0, .ref tE, .int 0])), (w54, .inl (w55, 1, .inr (.inr (.inr (.inl (fun _ => 0)))))), (w52, .inl (w53, 1, .inr (.inl (vp_updL (fun _ => 0) (0 : Int32).toNatClampNeg 0))))] H := hP
            have hD : va_D A [(w34, .inr (12, [.int 0, .ref w35, .ref w36, .ref w37, .int (-1), .int (-1), .int 0, .ref w38, .ref w39, .ref w40, .ref w41, .ref w42, .ref w43, .ref w44, .ref w45, .ref w46, .int 0, .int 0, .null, .int 0, .int 45, .ref w47, .ref w48, .ref w49, .ref w50, .ref w51])), (w35, .inr (14, [.int 0, .ref tE, .int 0])), (w36, .inr (14, [.int 0, .ref tE, .int 0])), (w54, .inl (w55, 1, .inr (.inr (.inr (.inl (fun _ => 0)))))), (w52, .inl (w53, 1, .inr (.inl (vp_updL (fun _ => 0) (0 : Int32).toNatClampNeg 0))))] := hD
            have hK : va_K (dC, dI) cls [(w16, .char), (w17, .char), (w18, .int), (w19, .boolean), (w20, .boolean), (w21, .boolean), (w22, .int), (w53, .long), (w55, .double), (w53, .long)] s := hK
            refine W.widen (k := 91) (n := 4902) (Nat.le_of_ble_eq_true rfl) (Nat.le_of_ble_eq_true rfl) ?_
            have hw : r_4 = 0 := hw
            subst hw
            refine lv_istore (lv' := [(6, .int 0), (5, .int 0), (4, .ref w54), (3, .ref w52), (2, .ref w34), (1, .ref w0), (0, .ref b)]) hx hb dL_law_284 hl (by decide) rfl (fun ls hl => ?_)
            refine lv_aload_n hx hb dL_law_286 rfl (lv_at hl 4 rfl) ?_
            refine lv_aload_n hx hb dL_law_287 rfl (lv_at hl 6 rfl) ?_
            refine lv_iload hx hb dL_law_288 (lv_at hl 1 rfl) ?_
            refine lv_iconst (v := 1) hx hb dL_law_290 (by decide) ?_
            refine lv_iadd hx hb dL_law_291 ?_
            refine W.eq (congrArg (fun z : Int32 => F0 m 292 ls (.int z :: [.ref b, .ref w34])) (by decide : (0 + 1 : Int32) = 1)) ?_
            refine va_sld hx hb hX hbl hbA hS (i := 1) (by unfold vp_in; decide) dL_law_292 ?_
            refine lv_i2c (v := ((xs (1 : Int32).toNatClampNeg).toUInt32 % 65536).toInt32) hx hb dL_law_293 rfl ?_
            refine lv_aload_n hx hb dL_law_294 rfl (lv_at hl 6 rfl) ?_
            refine lv_iload hx hb dL_law_295 (lv_at hl 1 rfl) ?_
            refine lv_iconst (v := 2) hx hb dL_law_297 (by decide) ?_
            refine lv_iadd hx hb dL_law_298 ?_
            refine W.eq (congrArg (fun z : Int32 => F0 m 299 ls (.int z :: [.ref b, .int (((xs (1 : Int32).toNatClampNeg).toUInt32 % 65536).toInt32), .ref w34])) (by decide : (0 + 2 : Int32) = 2)) ?_
            refine va_sld hx hb hX hbl hbA hS (i := 2) (by unfold vp_in; decide) dL_law_299 ?_
            refine lv_i2c (v := ((xs (2 : Int32).toNatClampNeg).toUInt32 % 65536).toInt32) hx hb dL_law_300 rfl ?_
            refine lv_aload_n hx hb dL_law_301 rfl (lv_at hl 6 rfl) ?_
            refine lv_iload hx hb dL_law_302 (lv_at hl 1 rfl) ?_
            refine lv_iconst (v := 3) hx hb dL_law_304 (by decide) ?_
            refine lv_iadd hx hb dL_law_305 ?_
            refine W.eq (congrArg (fun z : Int32 => F0 m 306 ls (.int z :: [.ref b, .int (((xs (2 : Int32).toNatClampNeg).toUInt32 % 65536).toInt32), .int (((xs (1 : Int32).toNatClampNeg).toUInt32 % 65536).toInt32), .ref w34])) (by decide : (0 + 3 : Int32) = 3)) ?_
            refine va_sld hx hb hX hbl hbA hS (i := 3) (by unfold vp_in; decide) dL_law_306 ?_
            refine lv_aload_n hx hb dL_law_307 rfl (lv_at hl 6 rfl) ?_
            refine lv_iload hx hb dL_law_308 (lv_at hl 1 rfl) ?_
            refine lv_iconst (v := 4) hx hb dL_law_310 (by decide) ?_
            refine lv_iadd hx hb dL_law_311 ?_
            refine W.eq (congrArg (fun z : Int32 => F0 m 312 ls (.int z :: [.ref b, .int (xs (3 : Int32).toNatClampNeg), .int (((xs (2 : Int32).toNatClampNeg).toUInt32 % 65536).toInt32), .int (((xs (1 : Int32).toNatClampNeg).toUInt32 % 65536).toInt32), .ref w34])) (by decide : (0 + 4 : Int32) = 4)) ?_
            refine va_sld hx hb hX hbl hbA hS (i := 4) (by unfold vp_in; decide) dL_law_312 ?_
            refine lv_if_eq (tgt := 320) hx hb dL_law_313 (by decide) (fun c_5 => ?_) (fun c_5 => ?_)
            · refine lv_iconst (v := 0) hx hb dL_law_320 (by decide) ?_
              refine lv_aload_n hx hb dL_law_321 rfl (lv_at hl 6 rfl) ?_
              refine lv_iload hx hb dL_law_322 (lv_at hl 1 rfl) ?_
              refine lv_iconst (v := 5) hx hb dL_law_324 (by decide) ?_
              refine lv_iadd hx hb dL_law_325 ?_
              refine W.eq (congrArg (fun z : Int32 => F0 m 326 ls (.int z :: [.ref b, .int 0, .int (xs (3 : Int32).toNatClampNeg), .int (((xs (2 : Int32).toNatClampNeg).toUInt32 % 65536).toInt32), .int (((xs (1 : Int32).toNatClampNeg).toUInt32 % 65536).toInt32), .ref w34])) (by decide : (0 + 5 : Int32) = 5)) ?_
              refine va_sld hx hb hX hbl hbA hS (i := 5) (by unfold vp_in; decide) dL_law_326 ?_
              refine lv_if_eq (tgt := 334) hx hb dL_law_327 (by decide) (fun c_6 => ?_) (fun c_6 => ?_)
              · refine lv_iconst (v := 0) hx hb dL_law_334 (by decide) ?_
                refine lv_aload_n hx hb dL_law_335 rfl (lv_at hl 6 rfl) ?_
                refine lv_iload hx hb dL_law_336 (lv_at hl 1 rfl) ?_
                refine lv_bipush (v := 6) hx hb dL_law_338 (by decide) ?_
                refine lv_iadd hx hb dL_law_340 ?_
                refine W.eq (congrArg (fun z : Int32 => F0 m 341 ls (.int z :: [.ref b, .int 0, .int 0, .int (xs (3 : Int32).toNatClampNeg), .int (((xs (2 : Int32).toNatClampNeg).toUInt32 % 65536).toInt32), .int (((xs (1 : Int32).toNatClampNeg).toUInt32 % 65536).toInt32), .ref w34])) (by decide : (0 + 6 : Int32) = 6)) ?_
                refine va_sld hx hb hX hbl hbA hS (i := 6) (by unfold vp_in; decide) dL_law_341 ?_
                refine lv_if_eq (tgt := 349) hx hb dL_law_342 (by decide) (fun c_7 => ?_) (fun c_7 => ?_)
                · refine lv_iconst (v := 0) hx hb dL_law_349 (by decide) ?_
                  have hPc := hP.sub (ws' := [(w34, .inr (12, [.int 0, .ref w35, .ref w36, .ref w37, .int (-1), .int (-1), .int 0, .ref w38, .ref w39, .ref w40, .ref w41, .ref w42, .ref w43, .ref w44, .ref w45, .ref w46, .int 0, .int 0, .null, .int 0, .int 45, .ref w47, .ref w48, .ref w49, .ref w50, .ref w51])), (w35, .inr (14, [.int 0, .ref tE, .int 0])), (w36, .inr (14, [.int 0, .ref tE, .int 0]))]) [0, 1, 2] rfl
                  have hKc := hK.sub (tys' := []) [] rfl
                  have hDc := hD.sub (ws' := [(w34, .inr (12, [.int 0, .ref w35, .ref w36, .ref w37, .int (-1), .int (-1), .int 0, .ref w38, .ref w39, .ref w40, .ref w41, .ref w42, .ref w43, .ref w44, .ref w45, .ref w46, .int 0, .int 0, .null, .int 0, .int 45, .ref w47, .ref w48, .ref w49, .ref w50, .ref w51])), (w35, .inr (14, [.int 0, .ref tE, .int 0])), (w36, .inr (14, [.int 0, .ref tE, .int 0]))]) [0, 1, 2] (by decide) rfl
                  have hFc := va_free (wc := [(w34, .inr (12, [.int 0, .ref w35, .ref w36, .ref w37, .int (-1), .int (-1), .int 0, .ref w38, .ref w39, .ref w40, .ref w41, .ref w42, .ref w43, .ref w44, .ref w45, .ref w46, .int 0, .int 0, .null, .int 0, .int 45, .ref w47, .ref w48, .ref w49, .ref w50, .ref w51])), (w35, .inr (14, [.int 0, .ref tE, .int 0])), (w36, .inr (14, [.int 0, .ref tE, .int 0]))]) hD hS hA [0, 1, 2] rfl
                  refine va_calli (va_runV (As := [.int (((xs (1 : Int32).toNatClampNeg).toUInt32 % 65536).toInt32), .int (((xs (2 : Int32).toNatClampNeg).toUInt32 % 65536).toInt32), .int (xs (3 : Int32).toNatClampNeg), .int 0, .int 0, .int 0]) (rest := []) ⟨hx, hb, hml, hown, hq⟩ (c_M_role_ok l hst tE adK adV dC dI w34 w35 w36 w37 w38 w39 w40 w41 w42 w43 w44 w45 w46 w47 w48 w49 w50 w51 0 (((xs (1 : Int32).toNatClampNeg).toUInt32 % 65536).toInt32) (((xs (2 : Int32).toNatClampNeg).toUInt32 % 65536).toInt32) (xs (3 : Int32).toNatClampNeg) 0 0 0 hok (Or.inl rfl) (Or.inl rfl) (Or.inl rfl) H.size) (tcV 6 hq q_1386 q_12 q_1383 q_1384 q_1385 rfl rfl (by decide +kernel) ⟨Nat.le_of_ble_eq_true rfl, Nat.le_of_ble_eq_true rfl⟩) (pre.V (va_recv hK hP (ci := 12) (q0 := 0) rfl rfl) (pre.of hPc hDc hKc ham hS hFc)) rfl rfl hl.1 rfl (lv_room (Nat.le_of_ble_eq_true rfl)) dL_law_350 ⟨Nat.le_of_ble_eq_true rfl, Nat.le_of_ble_eq_true rfl⟩) hS (fun q _ h => hFc q h) hFc (fun r_8 u t H1 locs ht hvm hw hB hz1 hk1 hS => ?_)
                  obtain ⟨hP1, hK1, hD1⟩ := hB
                  rw [ht] at hP1
                  have hK1 := va_K.moved hvm.symm hK1
                  obtain ⟨hP, hD⟩ := va_join (wr := [(w54, .inl (w55, 1, .inr (.inr (.inr (.inl (fun _ => 0)))))), (w52, .inl (w53, 1, .inr (.inl (vp_updL (fun _ => 0) (0 : Int32).toNatClampNeg 0))))]) (w1 := [(w34, .inr (12, [.int 0, .ref w35, .ref w36, .ref w37, .int (-1), .int (-1), .int 0, .ref w38, .ref w39, .ref w40, .ref w41, .ref w42, .ref w43, .ref w44, .ref w45, .ref w46, .int 0, .int 0, .null, .int 0, .int 45, .ref w47, .ref w48, .ref w49, .ref w50, .ref w51]))]) (wc := [(w34, .inr (12, [.int 0, .ref w35, .ref w36, .ref w37, .int (-1), .int (-1), .int 0, .ref w38, .ref w39, .ref w40, .ref w41, .ref w42, .ref w43, .ref w44, .ref w45, .ref w46, .int 0, .int 0, .null, .int 0, .int 45, .ref w47, .ref w48, .ref w49, .ref w50, .ref w51])), (w35, .inr (14, [.int 0, .ref tE, .int 0])), (w36, .inr (14, [.int 0, .ref tE, .int 0]))]) hP hD [0, 1, 2] [3, 4] rfl rfl (by decide) (by decide) hk1 hFc hP1 hD1
                  have hK := (hK.sub (tys' := [(w16, .char), (w17, .char), (w18, .int), (w19, .boolean), (w20, .boolean), (w21, .boolean), (w22, .int), (w53, .long), (w55, .double), (w53, .long)]) [0, 1, 2, 3, 4, 5, 6, 7, 8, 9] rfl).app hK1
                  generalize H1 = H at hP hS ⊢
                  have hP : va_P (dC, dI) cls [(w54, .inl (w55, 1, .inr (.inr (.inr (.inl (fun _ => 0)))))), (w52, .inl (w53, 1, .inr (.inl (vp_updL (fun _ => 0) (0 : Int32).toNatClampNeg 0)))), (w34, .inr (12, [.int 0, .ref w35, .ref w36, .ref w37, .int (-1), .int (-1), .int 0, .ref w38, .ref w39, .ref w40, .ref w41, .ref w42, .ref w43, .ref w44, .ref w45, .ref w46, .int 0, .int 0, .null, .int 0, .int 45, .ref w47, .ref w48, .ref w49, .ref w50, .ref w51]))] H := hP
                  have hD : va_D A [(w54, .inl (w55, 1, .inr (.inr (.inr (.inl (fun _ => 0)))))), (w52, .inl (w53, 1, .inr (.inl (vp_updL (fun _ => 0) (0 : Int32).toNatClampNeg 0)))), (w34, .inr (12, [.int 0, .ref w35, .ref w36, .ref w37, .int (-1), .int (-1), .int 0, .ref w38, .ref w39, .ref w40, .ref w41, .ref w42, .ref w43, .ref w44, .ref w45, .ref w46, .int 0, .int 0, .null, .int 0, .int 45, .ref w47, .ref w48, .ref w49, .ref w50, .ref w51]))] := hD
                  have hK : va_K (dC, dI) cls [(w16, .char), (w17, .char), (w18, .int), (w19, .boolean), (w20, .boolean), (w21, .boolean), (w22, .int), (w53, .long), (w55, .double), (w53, .long)] s := hK
                  refine W.widen (k := 93) (n := 4919) (Nat.le_of_ble_eq_true rfl) (Nat.le_of_ble_eq_true rfl) ?_
                  have hw : r_8 = 0 := hw
                  subst hw
                  refine lv_istore (lv' := [(7, .int 0), (6, .int 0), (5, .int 0), (4, .ref w54), (3, .ref w52), (2, .ref w34), (1, .ref w0), (0, .ref b)]) hx hb dL_law_353 hl (by decide) rfl (fun ls hl => ?_)
                  refine lv_aload_n hx hb dL_law_355 rfl (lv_at hl 5 rfl) ?_
                  have hPc := hP.sub (ws' := [(w34, .inr (12, [.int 0, .ref w35, .ref w36, .ref w37, .int (-1), .int (-1), .int 0, .ref w38, .ref w39, .ref w40, .ref w41, .ref w42, .ref w43, .ref w44, .ref w45, .ref w46, .int 0, .int 0, .null, .int 0, .int 45, .ref w47, .ref w48, .ref w49, .ref w50, .ref w51]))]) [2] rfl
                  have hKc := hK.sub (tys' := []) [] rfl
                  refine va_calli (va_runV (As := []) (rest := []) ⟨hx, hb, hml, hown, hq⟩ (c_thrown l hst tE adK adV dC dI w34 w35 w36 w37 w38 w39 w40 w41 w42 w43 w44 w45 w46 w47 w48 w49 w50 w51 0 H.size) (tcV 0 hq q_1264 q_12 q_1261 q_1262 q_1263 rfl rfl (by decide +kernel) ⟨Nat.le_of_ble_eq_true rfl, Nat.le_of_ble_eq_true rfl⟩) (preR.V (va_recv hK hP (ci := 12) (q0 := 2) rfl rfl) (preR.of hPc hKc ham hS hA)) rfl rfl hl.1 rfl (lv_room (Nat.le_of_ble_eq_true rfl)) dL_law_356 ⟨Nat.le_of_ble_eq_true rfl, Nat.le_of_ble_eq_true rfl⟩) hS (fun q _ h => hA q (Nat.le_trans hS.1 h)) (fun q h => hA q (Nat.le_trans hS.1 h)) (fun r_9 u t H1 locs ht hvm hw hB hz1 hk1 hS => ?_)
                  have hP : va_P (dC, dI) cls [(w54, .inl (w55, 1, .inr (.inr (.inr (.inl (fun _ => 0)))))), (w52, .inl (w53, 1, .inr (.inl (vp_updL (fun _ => 0) (0 : Int32).toNatClampNeg 0)))), (w34, .inr (12, [.int 0, .ref w35, .ref w36, .ref w37, .int (-1), .int (-1), .int 0, .ref w38, .ref w39, .ref w40, .ref w41, .ref w42, .ref w43, .ref w44, .ref w45, .ref w46, .int 0, .int 0, .null, .int 0, .int 45, .ref w47, .ref w48, .ref w49, .ref w50, .ref w51]))] H1 := ro_keep hP hk1
                  generalize H1 = H at hP hS ⊢
                  refine W.widen (k := 93) (n := 4919) (Nat.le_of_ble_eq_true rfl) (Nat.le_of_ble_eq_true rfl) ?_
                  have hw : r_9 = 0 := hw
                  subst hw
                  refine lv_iload hx hb dL_law_359 (lv_at hl 1 rfl) ?_
                  refine lv_icmp_eq (tgt := 366) hx hb dL_law_361 (by decide) (fun c_10 => ?_) (fun c_10 => ?_)
                  · refine lv_iload hx hb dL_law_366 (lv_at hl 1 rfl) ?_
                    refine lv_if_ne (tgt := 383) hx hb dL_law_368 (by decide) (fun c_11 => ?_) (fun c_11 => ?_)
                    · exact absurd c_11 (by decide)
                    · refine lv_aload_n hx hb dL_law_371 rfl (lv_at hl 4 rfl) ?_
                      refine lv_iconst (v := 0) hx hb dL_law_372 (by decide) ?_
                      refine va_lald hx hb hK hP 1 7 rfl rfl (by unfold vp_in; decide) dL_law_373 ?_
                      refine W.eq (congrArg (fun z : Int64 => F0 m 374 ls (.long z :: [])) pk_uLs) ?_
                      refine lv_iload hx hb dL_law_374 (lv_at hl 0 rfl) ?_
                      refine lv_i2l (v := 0) hx hb dL_law_376 (by decide) ?_
                      refine W.lcmp hx hb dL_law_377 ?_
                      refine W.eq (congrArg (fun z : Int32 => F0 m 378 ls (.int z :: [])) (by decide : lg_cmp 0 0 = 0)) ?_
                      refine lv_if_eq (tgt := 383) hx hb dL_law_378 (by decide) (fun c_12 => ?_) (fun c_12 => ?_)
                      · refine lv_goto (tgt := 2585) hx hb dL_law_383 (by decide) ?_
                        refine W.widen (k := 600002) (n := 7302232) (Nat.le_of_ble_eq_true rfl) (Nat.le_of_ble_eq_true rfl) ?_
                        exact law_end C0 hA hA2 hS (lv_sub hl [7, 2] rfl)
                      · exact absurd c_12 (by decide)
                  · exact absurd c_10 (by decide)
                · exact absurd c_3 c_7
              · exact absurd c_2 c_6
            · exact absurd c_1 c_5
        · refine lv_iconst (v := 1) hx hb dL_law_275 (by decide) ?_
          refine lv_goto (tgt := 280) hx hb dL_law_276 (by decide) ?_
          refine lv_aload_n hx hb dL_law_280 rfl (lv_at hl 2 rfl) ?_
          have hPc := hP.sub (ws' := [(w0, .inr (10, [.ref w1, .ref w2, .ref w3, .ref w4, .ref w5, .ref w6, .ref w7, .ref w8])), (w1, .inr (7, [.ref w9, .ref w10, .ref w11, .ref w12, .ref w13, .ref w14, .ref w15, .int 0])), (w9, .inl (w16, 8, .inl (fun _ => 0))), (w10, .inl (w17, 8, .inl (fun _ => 0))), (w11, .inl (w18, 8, .inl (fun _ => 0))), (w12, .inl (w19, 8, .inl (fun _ => 0))), (w13, .inl (w20, 8, .inl (fun _ => 0))), (w14, .inl (w21, 8, .inl (fun _ => 0))), (w15, .inl (w22, 8, .inl (fun _ => 0))), (w2, .inr (2, [.ref w23, .ref w24, .ref w25, .int 0, .int (-1), .int (-1)])), (w3, .inr (4, [.ref w26, .ref w27, .ref w28, .int 0, .int 0, .int 0, .int 45])), (w26, .inr (3, [.ref w1, .ref w2, .ref w29, .ref w30, .ref w31, .ref w32, .ref w33, .int 0, .int 0])), (w52, .inl (w53, 1, .inr (.inl (fun _ => 0))))]) [0, 1, 2, 3, 4, 5, 6, 7, 8, 9, 10, 11, 15] rfl
          have hKc := hK.sub (tys' := [(w16, .char), (w17, .char), (w18, .int), (w19, .boolean), (w20, .boolean), (w21, .boolean), (w22, .int), (w53, .long)]) [0, 1, 2, 3, 4, 5, 6, 7] rfl
          have hDc := hD.sub (ws' := [(w0, .inr (10, [.ref w1, .ref w2, .ref w3, .ref w4, .ref w5, .ref w6, .ref w7, .ref w8])), (w1, .inr (7, [.ref w9, .ref w10, .ref w11, .ref w12, .ref w13, .ref w14, .ref w15, .int 0])), (w9, .inl (w16, 8, .inl (fun _ => 0))), (w10, .inl (w17, 8, .inl (fun _ => 0))), (w11, .inl (w18, 8, .inl (fun _ => 0))), (w12, .inl (w19, 8, .inl (fun _ => 0))), (w13, .inl (w20, 8, .inl (fun _ => 0))), (w14, .inl (w21, 8, .inl (fun _ => 0))), (w15, .inl (w22, 8, .inl (fun _ => 0))), (w2, .inr (2, [.ref w23, .ref w24, .ref w25, .int 0, .int (-1), .int (-1)])), (w3, .inr (4, [.ref w26, .ref w27, .ref w28, .int 0, .int 0, .int 0, .int 45])), (w26, .inr (3, [.ref w1, .ref w2, .ref w29, .ref w30, .ref w31, .ref w32, .ref w33, .int 0, .int 0])), (w52, .inl (w53, 1, .inr (.inl (fun _ => 0))))]) [0, 1, 2, 3, 4, 5, 6, 7, 8, 9, 10, 11, 15] (by decide) rfl
          have hFc := va_free (wc := [(w0, .inr (10, [.ref w1, .ref w2, .ref w3, .ref w4, .ref w5, .ref w6, .ref w7, .ref w8])), (w1, .inr (7, [.ref w9, .ref w10, .ref w11, .ref w12, .ref w13, .ref w14, .ref w15, .int 0])), (w9, .inl (w16, 8, .inl (fun _ => 0))), (w10, .inl (w17, 8, .inl (fun _ => 0))), (w11, .inl (w18, 8, .inl (fun _ => 0))), (w12, .inl (w19, 8, .inl (fun _ => 0))), (w13, .inl (w20, 8, .inl (fun _ => 0))), (w14, .inl (w21, 8, .inl (fun _ => 0))), (w15, .inl (w22, 8, .inl (fun _ => 0))), (w2, .inr (2, [.ref w23, .ref w24, .ref w25, .int 0, .int (-1), .int (-1)])), (w3, .inr (4, [.ref w26, .ref w27, .ref w28, .int 0, .int 0, .int 0, .int 45])), (w26, .inr (3, [.ref w1, .ref w2, .ref w29, .ref w30, .ref w31, .ref w32, .ref w33, .int 0, .int 0])), (w52, .inl (w53, 1, .inr (.inl (fun _ => 0))))]) hD hS hA [0, 1, 2, 3, 4, 5, 6, 7, 8, 9, 10, 11, 15] rfl
          refine vx_calli (vx_runSX (As := [.ref w0, .int (((xs (1 : Int32).toNatClampNeg).toUInt32 % 65536).toInt32), .int (((xs (2 : Int32).toNatClampNeg).toUInt32 % 65536).toInt32), .int (xs (3 : Int32).toNatClampNeg), .int 0, .int 0, .int 1, .ref w52]) (rest := []) ⟨hx, hb, hml, hown, hq⟩ (c_L_role_ok l hst tE adK adV dC dI w0 w1 w2 w3 w4 w5 w6 w7 w8 w9 w10 w11 w12 w13 w14 w15 w16 w17 w18 w19 w20 w21 w22 w23 w24 w25 w26 w27 w28 w29 w30 w31 w32 w33 w52 w53 (fun _ => 0) (((xs (1 : Int32).toNatClampNeg).toUInt32 % 65536).toInt32) (((xs (2 : Int32).toNatClampNeg).toUInt32 % 65536).toInt32) (xs (3 : Int32).toNatClampNeg) 0 0 1 hok H.size) (tcSW 8 hq q_682 q_0 q_680 q_681 rfl rfl (by decide +kernel) ⟨Nat.le_of_ble_eq_true rfl, Nat.le_of_ble_eq_true rfl⟩) (pre.S (pre.of hPc hDc hKc ham hS hFc)) rfl rfl hl.1 rfl (lv_room (Nat.le_of_ble_eq_true rfl)) dL_law_281 ⟨Nat.le_of_ble_eq_true rfl, Nat.le_of_ble_eq_true rfl⟩) hS (fun q _ h => hFc q h) hFc (fun q _ h => hFc q h) (fun E ce q9 u t H1 locs ht hvm hpx hB hz1 hk1 hS hce hcv hcl => ?_) (fun r_13 u t H1 locs ht hvm hw hB hz1 hk1 hS => ?_)
          · exact (hB : False).elim
          · obtain ⟨hP1, hK1, hD1⟩ := hB
            rw [ht] at hP1
            have hK1 := va_K.moved hvm.symm hK1
            obtain ⟨hP, hD⟩ := va_join (wr := [(w34, .inr (12, [.int 0, .ref w35, .ref w36, .ref w37, .int (-1), .int (-1), .int 0, .ref w38, .ref w39, .ref w40, .ref w41, .ref w42, .ref w43, .ref w44, .ref w45, .ref w46, .int 0, .int 0, .null, .int 0, .int 45, .ref w47, .ref w48, .ref w49, .ref w50, .ref w51])), (w35, .inr (14, [.int 0, .ref tE, .int 0])), (w36, .inr (14, [.int 0, .ref tE, .int 0])), (w54, .inl (w55, 1, .inr (.inr (.inr (.inl (fun _ => 0))))))]) (w1 := [(w52, .inl (w53, 1, .inr (.inl (vp_updL (fun _ => 0) (0 : Int32).toNatClampNeg 0))))]) (wc := [(w0, .inr (10, [.ref w1, .ref w2, .ref w3, .ref w4, .ref w5, .ref w6, .ref w7, .ref w8])), (w1, .inr (7, [.ref w9, .ref w10, .ref w11, .ref w12, .ref w13, .ref w14, .ref w15, .int 0])), (w9, .inl (w16, 8, .inl (fun _ => 0))), (w10, .inl (w17, 8, .inl (fun _ => 0))), (w11, .inl (w18, 8, .inl (fun _ => 0))), (w12, .inl (w19, 8, .inl (fun _ => 0))), (w13, .inl (w20, 8, .inl (fun _ => 0))), (w14, .inl (w21, 8, .inl (fun _ => 0))), (w15, .inl (w22, 8, .inl (fun _ => 0))), (w2, .inr (2, [.ref w23, .ref w24, .ref w25, .int 0, .int (-1), .int (-1)])), (w3, .inr (4, [.ref w26, .ref w27, .ref w28, .int 0, .int 0, .int 0, .int 45])), (w26, .inr (3, [.ref w1, .ref w2, .ref w29, .ref w30, .ref w31, .ref w32, .ref w33, .int 0, .int 0])), (w52, .inl (w53, 1, .inr (.inl (fun _ => 0))))]) hP hD [0, 1, 2, 3, 4, 5, 6, 7, 8, 9, 10, 11, 15] [12, 13, 14, 16] rfl rfl (by decide) (by decide) hk1 hFc hP1 hD1
            have hK := (hK.sub (tys' := [(w16, .char), (w17, .char), (w18, .int), (w19, .boolean), (w20, .boolean), (w21, .boolean), (w22, .int), (w53, .long), (w55, .double)]) [0, 1, 2, 3, 4, 5, 6, 7, 8] rfl).app hK1
            generalize H1 = H at hP hS ⊢
            have hP : va_P (dC, dI) cls [(w34, .inr (12, [.int 0, .ref w35, .ref w36, .ref w37, .int (-1), .int (-1), .int 0, .ref w38, .ref w39, .ref w40, .ref w41, .ref w42, .ref w43, .ref w44, .ref w45, .ref w46, .int 0, .int 0, .null, .int 0, .int 45, .ref w47, .ref w48, .ref w49, .ref w50, .ref w51])), (w35, .inr (14, [.int 0, .ref tE, .int 0])), (w36, .inr (14, [.int 0, .ref tE, .int 0])), (w54, .inl (w55, 1, .inr (.inr (.inr (.inl (fun _ => 0)))))), (w52, .inl (w53, 1, .inr (.inl (vp_updL (fun _ => 0) (0 : Int32).toNatClampNeg 0))))] H := hP
            have hD : va_D A [(w34, .inr (12, [.int 0, .ref w35, .ref w36, .ref w37, .int (-1), .int (-1), .int 0, .ref w38, .ref w39, .ref w40, .ref w41, .ref w42, .ref w43, .ref w44, .ref w45, .ref w46, .int 0, .int 0, .null, .int 0, .int 45, .ref w47, .ref w48, .ref w49, .ref w50, .ref w51])), (w35, .inr (14, [.int 0, .ref tE, .int 0])), (w36, .inr (14, [.int 0, .ref tE, .int 0])), (w54, .inl (w55, 1, .inr (.inr (.inr (.inl (fun _ => 0)))))), (w52, .inl (w53, 1, .inr (.inl (vp_updL (fun _ => 0) (0 : Int32).toNatClampNeg 0))))] := hD
            have hK : va_K (dC, dI) cls [(w16, .char), (w17, .char), (w18, .int), (w19, .boolean), (w20, .boolean), (w21, .boolean), (w22, .int), (w53, .long), (w55, .double), (w53, .long)] s := hK
            refine W.widen (k := 91) (n := 4902) (Nat.le_of_ble_eq_true rfl) (Nat.le_of_ble_eq_true rfl) ?_
            have hw : r_13 = 0 := hw
            subst hw
            refine lv_istore (lv' := [(6, .int 0), (5, .int 0), (4, .ref w54), (3, .ref w52), (2, .ref w34), (1, .ref w0), (0, .ref b)]) hx hb dL_law_284 hl (by decide) rfl (fun ls hl => ?_)
            refine lv_aload_n hx hb dL_law_286 rfl (lv_at hl 4 rfl) ?_
            refine lv_aload_n hx hb dL_law_287 rfl (lv_at hl 6 rfl) ?_
            refine lv_iload hx hb dL_law_288 (lv_at hl 1 rfl) ?_
            refine lv_iconst (v := 1) hx hb dL_law_290 (by decide) ?_
            refine lv_iadd hx hb dL_law_291 ?_
            refine W.eq (congrArg (fun z : Int32 => F0 m 292 ls (.int z :: [.ref b, .ref w34])) (by decide : (0 + 1 : Int32) = 1)) ?_
            refine va_sld hx hb hX hbl hbA hS (i := 1) (by unfold vp_in; decide) dL_law_292 ?_
            refine lv_i2c (v := ((xs (1 : Int32).toNatClampNeg).toUInt32 % 65536).toInt32) hx hb dL_law_293 rfl ?_
            refine lv_aload_n hx hb dL_law_294 rfl (lv_at hl 6 rfl) ?_
            refine lv_iload hx hb dL_law_295 (lv_at hl 1 rfl) ?_
            refine lv_iconst (v := 2) hx hb dL_law_297 (by decide) ?_
            refine lv_iadd hx hb dL_law_298 ?_
            refine W.eq (congrArg (fun z : Int32 => F0 m 299 ls (.int z :: [.ref b, .int (((xs (1 : Int32).toNatClampNeg).toUInt32 % 65536).toInt32), .ref w34])) (by decide : (0 + 2 : Int32) = 2)) ?_
            refine va_sld hx hb hX hbl hbA hS (i := 2) (by unfold vp_in; decide) dL_law_299 ?_
            refine lv_i2c (v := ((xs (2 : Int32).toNatClampNeg).toUInt32 % 65536).toInt32) hx hb dL_law_300 rfl ?_
            refine lv_aload_n hx hb dL_law_301 rfl (lv_at hl 6 rfl) ?_
            refine lv_iload hx hb dL_law_302 (lv_at hl 1 rfl) ?_
            refine lv_iconst (v := 3) hx hb dL_law_304 (by decide) ?_
            refine lv_iadd hx hb dL_law_305 ?_
            refine W.eq (congrArg (fun z : Int32 => F0 m 306 ls (.int z :: [.ref b, .int (((xs (2 : Int32).toNatClampNeg).toUInt32 % 65536).toInt32), .int (((xs (1 : Int32).toNatClampNeg).toUInt32 % 65536).toInt32), .ref w34])) (by decide : (0 + 3 : Int32) = 3)) ?_
            refine va_sld hx hb hX hbl hbA hS (i := 3) (by unfold vp_in; decide) dL_law_306 ?_
            refine lv_aload_n hx hb dL_law_307 rfl (lv_at hl 6 rfl) ?_
            refine lv_iload hx hb dL_law_308 (lv_at hl 1 rfl) ?_
            refine lv_iconst (v := 4) hx hb dL_law_310 (by decide) ?_
            refine lv_iadd hx hb dL_law_311 ?_
            refine W.eq (congrArg (fun z : Int32 => F0 m 312 ls (.int z :: [.ref b, .int (xs (3 : Int32).toNatClampNeg), .int (((xs (2 : Int32).toNatClampNeg).toUInt32 % 65536).toInt32), .int (((xs (1 : Int32).toNatClampNeg).toUInt32 % 65536).toInt32), .ref w34])) (by decide : (0 + 4 : Int32) = 4)) ?_
            refine va_sld hx hb hX hbl hbA hS (i := 4) (by unfold vp_in; decide) dL_law_312 ?_
            refine lv_if_eq (tgt := 320) hx hb dL_law_313 (by decide) (fun c_14 => ?_) (fun c_14 => ?_)
            · refine lv_iconst (v := 0) hx hb dL_law_320 (by decide) ?_
              refine lv_aload_n hx hb dL_law_321 rfl (lv_at hl 6 rfl) ?_
              refine lv_iload hx hb dL_law_322 (lv_at hl 1 rfl) ?_
              refine lv_iconst (v := 5) hx hb dL_law_324 (by decide) ?_
              refine lv_iadd hx hb dL_law_325 ?_
              refine W.eq (congrArg (fun z : Int32 => F0 m 326 ls (.int z :: [.ref b, .int 0, .int (xs (3 : Int32).toNatClampNeg), .int (((xs (2 : Int32).toNatClampNeg).toUInt32 % 65536).toInt32), .int (((xs (1 : Int32).toNatClampNeg).toUInt32 % 65536).toInt32), .ref w34])) (by decide : (0 + 5 : Int32) = 5)) ?_
              refine va_sld hx hb hX hbl hbA hS (i := 5) (by unfold vp_in; decide) dL_law_326 ?_
              refine lv_if_eq (tgt := 334) hx hb dL_law_327 (by decide) (fun c_15 => ?_) (fun c_15 => ?_)
              · refine lv_iconst (v := 0) hx hb dL_law_334 (by decide) ?_
                refine lv_aload_n hx hb dL_law_335 rfl (lv_at hl 6 rfl) ?_
                refine lv_iload hx hb dL_law_336 (lv_at hl 1 rfl) ?_
                refine lv_bipush (v := 6) hx hb dL_law_338 (by decide) ?_
                refine lv_iadd hx hb dL_law_340 ?_
                refine W.eq (congrArg (fun z : Int32 => F0 m 341 ls (.int z :: [.ref b, .int 0, .int 0, .int (xs (3 : Int32).toNatClampNeg), .int (((xs (2 : Int32).toNatClampNeg).toUInt32 % 65536).toInt32), .int (((xs (1 : Int32).toNatClampNeg).toUInt32 % 65536).toInt32), .ref w34])) (by decide : (0 + 6 : Int32) = 6)) ?_
                refine va_sld hx hb hX hbl hbA hS (i := 6) (by unfold vp_in; decide) dL_law_341 ?_
                refine lv_if_eq (tgt := 349) hx hb dL_law_342 (by decide) (fun c_16 => ?_) (fun c_16 => ?_)
                · exact absurd c_16 c_3
                · refine lv_iconst (v := 1) hx hb dL_law_345 (by decide) ?_
                  refine lv_goto (tgt := 350) hx hb dL_law_346 (by decide) ?_
                  have hPc := hP.sub (ws' := [(w34, .inr (12, [.int 0, .ref w35, .ref w36, .ref w37, .int (-1), .int (-1), .int 0, .ref w38, .ref w39, .ref w40, .ref w41, .ref w42, .ref w43, .ref w44, .ref w45, .ref w46, .int 0, .int 0, .null, .int 0, .int 45, .ref w47, .ref w48, .ref w49, .ref w50, .ref w51])), (w35, .inr (14, [.int 0, .ref tE, .int 0])), (w36, .inr (14, [.int 0, .ref tE, .int 0]))]) [0, 1, 2] rfl
                  have hKc := hK.sub (tys' := []) [] rfl
                  have hDc := hD.sub (ws' := [(w34, .inr (12, [.int 0, .ref w35, .ref w36, .ref w37, .int (-1), .int (-1), .int 0, .ref w38, .ref w39, .ref w40, .ref w41, .ref w42, .ref w43, .ref w44, .ref w45, .ref w46, .int 0, .int 0, .null, .int 0, .int 45, .ref w47, .ref w48, .ref w49, .ref w50, .ref w51])), (w35, .inr (14, [.int 0, .ref tE, .int 0])), (w36, .inr (14, [.int 0, .ref tE, .int 0]))]) [0, 1, 2] (by decide) rfl
                  have hFc := va_free (wc := [(w34, .inr (12, [.int 0, .ref w35, .ref w36, .ref w37, .int (-1), .int (-1), .int 0, .ref w38, .ref w39, .ref w40, .ref w41, .ref w42, .ref w43, .ref w44, .ref w45, .ref w46, .int 0, .int 0, .null, .int 0, .int 45, .ref w47, .ref w48, .ref w49, .ref w50, .ref w51])), (w35, .inr (14, [.int 0, .ref tE, .int 0])), (w36, .inr (14, [.int 0, .ref tE, .int 0]))]) hD hS hA [0, 1, 2] rfl
                  refine va_calli (va_runV (As := [.int (((xs (1 : Int32).toNatClampNeg).toUInt32 % 65536).toInt32), .int (((xs (2 : Int32).toNatClampNeg).toUInt32 % 65536).toInt32), .int (xs (3 : Int32).toNatClampNeg), .int 0, .int 0, .int 1]) (rest := []) ⟨hx, hb, hml, hown, hq⟩ (c_M_role_ok l hst tE adK adV dC dI w34 w35 w36 w37 w38 w39 w40 w41 w42 w43 w44 w45 w46 w47 w48 w49 w50 w51 0 (((xs (1 : Int32).toNatClampNeg).toUInt32 % 65536).toInt32) (((xs (2 : Int32).toNatClampNeg).toUInt32 % 65536).toInt32) (xs (3 : Int32).toNatClampNeg) 0 0 1 hok (Or.inl rfl) (Or.inl rfl) (Or.inr rfl) H.size) (tcV 6 hq q_1386 q_12 q_1383 q_1384 q_1385 rfl rfl (by decide +kernel) ⟨Nat.le_of_ble_eq_true rfl, Nat.le_of_ble_eq_true rfl⟩) (pre.V (va_recv hK hP (ci := 12) (q0 := 0) rfl rfl) (pre.of hPc hDc hKc ham hS hFc)) rfl rfl hl.1 rfl (lv_room (Nat.le_of_ble_eq_true rfl)) dL_law_350 ⟨Nat.le_of_ble_eq_true rfl, Nat.le_of_ble_eq_true rfl⟩) hS (fun q _ h => hFc q h) hFc (fun r_17 u t H1 locs ht hvm hw hB hz1 hk1 hS => ?_)
                  obtain ⟨hP1, hK1, hD1⟩ := hB
                  rw [ht] at hP1
                  have hK1 := va_K.moved hvm.symm hK1
                  obtain ⟨hP, hD⟩ := va_join (wr := [(w54, .inl (w55, 1, .inr (.inr (.inr (.inl (fun _ => 0)))))), (w52, .inl (w53, 1, .inr (.inl (vp_updL (fun _ => 0) (0 : Int32).toNatClampNeg 0))))]) (w1 := [(w34, .inr (12, [.int 0, .ref w35, .ref w36, .ref w37, .int (-1), .int (-1), .int 0, .ref w38, .ref w39, .ref w40, .ref w41, .ref w42, .ref w43, .ref w44, .ref w45, .ref w46, .int 0, .int 0, .null, .int 0, .int 45, .ref w47, .ref w48, .ref w49, .ref w50, .ref w51]))]) (wc := [(w34, .inr (12, [.int 0, .ref w35, .ref w36, .ref w37, .int (-1), .int (-1), .int 0, .ref w38, .ref w39, .ref w40, .ref w41, .ref w42, .ref w43, .ref w44, .ref w45, .ref w46, .int 0, .int 0, .null, .int 0, .int 45, .ref w47, .ref w48, .ref w49, .ref w50, .ref w51])), (w35, .inr (14, [.int 0, .ref tE, .int 0])), (w36, .inr (14, [.int 0, .ref tE, .int 0]))]) hP hD [0, 1, 2] [3, 4] rfl rfl (by decide) (by decide) hk1 hFc hP1 hD1
                  have hK := (hK.sub (tys' := [(w16, .char), (w17, .char), (w18, .int), (w19, .boolean), (w20, .boolean), (w21, .boolean), (w22, .int), (w53, .long), (w55, .double), (w53, .long)]) [0, 1, 2, 3, 4, 5, 6, 7, 8, 9] rfl).app hK1
                  generalize H1 = H at hP hS ⊢
                  have hP : va_P (dC, dI) cls [(w54, .inl (w55, 1, .inr (.inr (.inr (.inl (fun _ => 0)))))), (w52, .inl (w53, 1, .inr (.inl (vp_updL (fun _ => 0) (0 : Int32).toNatClampNeg 0)))), (w34, .inr (12, [.int 0, .ref w35, .ref w36, .ref w37, .int (-1), .int (-1), .int 0, .ref w38, .ref w39, .ref w40, .ref w41, .ref w42, .ref w43, .ref w44, .ref w45, .ref w46, .int 0, .int 0, .null, .int 0, .int 45, .ref w47, .ref w48, .ref w49, .ref w50, .ref w51]))] H := hP
                  have hD : va_D A [(w54, .inl (w55, 1, .inr (.inr (.inr (.inl (fun _ => 0)))))), (w52, .inl (w53, 1, .inr (.inl (vp_updL (fun _ => 0) (0 : Int32).toNatClampNeg 0)))), (w34, .inr (12, [.int 0, .ref w35, .ref w36, .ref w37, .int (-1), .int (-1), .int 0, .ref w38, .ref w39, .ref w40, .ref w41, .ref w42, .ref w43, .ref w44, .ref w45, .ref w46, .int 0, .int 0, .null, .int 0, .int 45, .ref w47, .ref w48, .ref w49, .ref w50, .ref w51]))] := hD
                  have hK : va_K (dC, dI) cls [(w16, .char), (w17, .char), (w18, .int), (w19, .boolean), (w20, .boolean), (w21, .boolean), (w22, .int), (w53, .long), (w55, .double), (w53, .long)] s := hK
                  refine W.widen (k := 93) (n := 4919) (Nat.le_of_ble_eq_true rfl) (Nat.le_of_ble_eq_true rfl) ?_
                  have hw : r_17 = 0 := hw
                  subst hw
                  refine lv_istore (lv' := [(7, .int 0), (6, .int 0), (5, .int 0), (4, .ref w54), (3, .ref w52), (2, .ref w34), (1, .ref w0), (0, .ref b)]) hx hb dL_law_353 hl (by decide) rfl (fun ls hl => ?_)
                  refine lv_aload_n hx hb dL_law_355 rfl (lv_at hl 5 rfl) ?_
                  have hPc := hP.sub (ws' := [(w34, .inr (12, [.int 0, .ref w35, .ref w36, .ref w37, .int (-1), .int (-1), .int 0, .ref w38, .ref w39, .ref w40, .ref w41, .ref w42, .ref w43, .ref w44, .ref w45, .ref w46, .int 0, .int 0, .null, .int 0, .int 45, .ref w47, .ref w48, .ref w49, .ref w50, .ref w51]))]) [2] rfl
                  have hKc := hK.sub (tys' := []) [] rfl
                  refine va_calli (va_runV (As := []) (rest := []) ⟨hx, hb, hml, hown, hq⟩ (c_thrown l hst tE adK adV dC dI w34 w35 w36 w37 w38 w39 w40 w41 w42 w43 w44 w45 w46 w47 w48 w49 w50 w51 0 H.size) (tcV 0 hq q_1264 q_12 q_1261 q_1262 q_1263 rfl rfl (by decide +kernel) ⟨Nat.le_of_ble_eq_true rfl, Nat.le_of_ble_eq_true rfl⟩) (preR.V (va_recv hK hP (ci := 12) (q0 := 2) rfl rfl) (preR.of hPc hKc ham hS hA)) rfl rfl hl.1 rfl (lv_room (Nat.le_of_ble_eq_true rfl)) dL_law_356 ⟨Nat.le_of_ble_eq_true rfl, Nat.le_of_ble_eq_true rfl⟩) hS (fun q _ h => hA q (Nat.le_trans hS.1 h)) (fun q h => hA q (Nat.le_trans hS.1 h)) (fun r_18 u t H1 locs ht hvm hw hB hz1 hk1 hS => ?_)
                  have hP : va_P (dC, dI) cls [(w54, .inl (w55, 1, .inr (.inr (.inr (.inl (fun _ => 0)))))), (w52, .inl (w53, 1, .inr (.inl (vp_updL (fun _ => 0) (0 : Int32).toNatClampNeg 0)))), (w34, .inr (12, [.int 0, .ref w35, .ref w36, .ref w37, .int (-1), .int (-1), .int 0, .ref w38, .ref w39, .ref w40, .ref w41, .ref w42, .ref w43, .ref w44, .ref w45, .ref w46, .int 0, .int 0, .null, .int 0, .int 45, .ref w47, .ref w48, .ref w49, .ref w50, .ref w51]))] H1 := ro_keep hP hk1
                  generalize H1 = H at hP hS ⊢
                  refine W.widen (k := 93) (n := 4919) (Nat.le_of_ble_eq_true rfl) (Nat.le_of_ble_eq_true rfl) ?_
                  have hw : r_18 = 0 := hw
                  subst hw
                  refine lv_iload hx hb dL_law_359 (lv_at hl 1 rfl) ?_
                  refine lv_icmp_eq (tgt := 366) hx hb dL_law_361 (by decide) (fun c_19 => ?_) (fun c_19 => ?_)
                  · refine lv_iload hx hb dL_law_366 (lv_at hl 1 rfl) ?_
                    refine lv_if_ne (tgt := 383) hx hb dL_law_368 (by decide) (fun c_20 => ?_) (fun c_20 => ?_)
                    · exact absurd c_20 (by decide)
                    · refine lv_aload_n hx hb dL_law_371 rfl (lv_at hl 4 rfl) ?_
                      refine lv_iconst (v := 0) hx hb dL_law_372 (by decide) ?_
                      refine va_lald hx hb hK hP 1 7 rfl rfl (by unfold vp_in; decide) dL_law_373 ?_
                      refine W.eq (congrArg (fun z : Int64 => F0 m 374 ls (.long z :: [])) pk_uLs) ?_
                      refine lv_iload hx hb dL_law_374 (lv_at hl 0 rfl) ?_
                      refine lv_i2l (v := 0) hx hb dL_law_376 (by decide) ?_
                      refine W.lcmp hx hb dL_law_377 ?_
                      refine W.eq (congrArg (fun z : Int32 => F0 m 378 ls (.int z :: [])) (by decide : lg_cmp 0 0 = 0)) ?_
                      refine lv_if_eq (tgt := 383) hx hb dL_law_378 (by decide) (fun c_21 => ?_) (fun c_21 => ?_)
                      · refine lv_goto (tgt := 2585) hx hb dL_law_383 (by decide) ?_
                        refine W.widen (k := 600002) (n := 7302232) (Nat.le_of_ble_eq_true rfl) (Nat.le_of_ble_eq_true rfl) ?_
                        exact law_end C0 hA hA2 hS (lv_sub hl [7, 2] rfl)
                      · exact absurd c_21 (by decide)
                  · exact absurd c_19 (by decide)
              · exact absurd c_2 c_15
            · exact absurd c_1 c_14
      · refine lv_iconst (v := 1) hx hb dL_law_260 (by decide) ?_
        refine lv_goto (tgt := 265) hx hb dL_law_261 (by decide) ?_
        refine lv_aload_n hx hb dL_law_265 rfl (lv_at hl 5 rfl) ?_
        refine lv_iload hx hb dL_law_266 (lv_at hl 0 rfl) ?_
        refine lv_bipush (v := 6) hx hb dL_law_268 (by decide) ?_
        refine lv_iadd hx hb dL_law_270 ?_
        refine W.eq (congrArg (fun z : Int32 => F0 m 271 ls (.int z :: [.ref b, .int 1, .int 0, .int (xs (3 : Int32).toNatClampNeg), .int (((xs (2 : Int32).toNatClampNeg).toUInt32 % 65536).toInt32), .int (((xs (1 : Int32).toNatClampNeg).toUInt32 % 65536).toInt32), .ref w0])) (by decide : (0 + 6 : Int32) = 6)) ?_
        refine va_sld hx hb hX hbl hbA hS (i := 6) (by unfold vp_in; decide) dL_law_271 ?_
        refine lv_if_eq (tgt := 279) hx hb dL_law_272 (by decide) (fun c_22 => ?_) (fun c_22 => ?_)
        · refine lv_iconst (v := 0) hx hb dL_law_279 (by decide) ?_
          refine lv_aload_n hx hb dL_law_280 rfl (lv_at hl 2 rfl) ?_
          have hPc := hP.sub (ws' := [(w0, .inr (10, [.ref w1, .ref w2, .ref w3, .ref w4, .ref w5, .ref w6, .ref w7, .ref w8])), (w1, .inr (7, [.ref w9, .ref w10, .ref w11, .ref w12, .ref w13, .ref w14, .ref w15, .int 0])), (w9, .inl (w16, 8, .inl (fun _ => 0))), (w10, .inl (w17, 8, .inl (fun _ => 0))), (w11, .inl (w18, 8, .inl (fun _ => 0))), (w12, .inl (w19, 8, .inl (fun _ => 0))), (w13, .inl (w20, 8, .inl (fun _ => 0))), (w14, .inl (w21, 8, .inl (fun _ => 0))), (w15, .inl (w22, 8, .inl (fun _ => 0))), (w2, .inr (2, [.ref w23, .ref w24, .ref w25, .int 0, .int (-1), .int (-1)])), (w3, .inr (4, [.ref w26, .ref w27, .ref w28, .int 0, .int 0, .int 0, .int 45])), (w26, .inr (3, [.ref w1, .ref w2, .ref w29, .ref w30, .ref w31, .ref w32, .ref w33, .int 0, .int 0])), (w52, .inl (w53, 1, .inr (.inl (fun _ => 0))))]) [0, 1, 2, 3, 4, 5, 6, 7, 8, 9, 10, 11, 15] rfl
          have hKc := hK.sub (tys' := [(w16, .char), (w17, .char), (w18, .int), (w19, .boolean), (w20, .boolean), (w21, .boolean), (w22, .int), (w53, .long)]) [0, 1, 2, 3, 4, 5, 6, 7] rfl
          have hDc := hD.sub (ws' := [(w0, .inr (10, [.ref w1, .ref w2, .ref w3, .ref w4, .ref w5, .ref w6, .ref w7, .ref w8])), (w1, .inr (7, [.ref w9, .ref w10, .ref w11, .ref w12, .ref w13, .ref w14, .ref w15, .int 0])), (w9, .inl (w16, 8, .inl (fun _ => 0))), (w10, .inl (w17, 8, .inl (fun _ => 0))), (w11, .inl (w18, 8, .inl (fun _ => 0))), (w12, .inl (w19, 8, .inl (fun _ => 0))), (w13, .inl (w20, 8, .inl (fun _ => 0))), (w14, .inl (w21, 8, .inl (fun _ => 0))), (w15, .inl (w22, 8, .inl (fun _ => 0))), (w2, .inr (2, [.ref w23, .ref w24, .ref w25, .int 0, .int (-1), .int (-1)])), (w3, .inr (4, [.ref w26, .ref w27, .ref w28, .int 0, .int 0, .int 0, .int 45])), (w26, .inr (3, [.ref w1, .ref w2, .ref w29, .ref w30, .ref w31, .ref w32, .ref w33, .int 0, .int 0])), (w52, .inl (w53, 1, .inr (.inl (fun _ => 0))))]) [0, 1, 2, 3, 4, 5, 6, 7, 8, 9, 10, 11, 15] (by decide) rfl
          have hFc := va_free (wc := [(w0, .inr (10, [.ref w1, .ref w2, .ref w3, .ref w4, .ref w5, .ref w6, .ref w7, .ref w8])), (w1, .inr (7, [.ref w9, .ref w10, .ref w11, .ref w12, .ref w13, .ref w14, .ref w15, .int 0])), (w9, .inl (w16, 8, .inl (fun _ => 0))), (w10, .inl (w17, 8, .inl (fun _ => 0))), (w11, .inl (w18, 8, .inl (fun _ => 0))), (w12, .inl (w19, 8, .inl (fun _ => 0))), (w13, .inl (w20, 8, .inl (fun _ => 0))), (w14, .inl (w21, 8, .inl (fun _ => 0))), (w15, .inl (w22, 8, .inl (fun _ => 0))), (w2, .inr (2, [.ref w23, .ref w24, .ref w25, .int 0, .int (-1), .int (-1)])), (w3, .inr (4, [.ref w26, .ref w27, .ref w28, .int 0, .int 0, .int 0, .int 45])), (w26, .inr (3, [.ref w1, .ref w2, .ref w29, .ref w30, .ref w31, .ref w32, .ref w33, .int 0, .int 0])), (w52, .inl (w53, 1, .inr (.inl (fun _ => 0))))]) hD hS hA [0, 1, 2, 3, 4, 5, 6, 7, 8, 9, 10, 11, 15] rfl
          refine vx_calli (vx_runSX (As := [.ref w0, .int (((xs (1 : Int32).toNatClampNeg).toUInt32 % 65536).toInt32), .int (((xs (2 : Int32).toNatClampNeg).toUInt32 % 65536).toInt32), .int (xs (3 : Int32).toNatClampNeg), .int 0, .int 1, .int 0, .ref w52]) (rest := []) ⟨hx, hb, hml, hown, hq⟩ (c_L_role_ok l hst tE adK adV dC dI w0 w1 w2 w3 w4 w5 w6 w7 w8 w9 w10 w11 w12 w13 w14 w15 w16 w17 w18 w19 w20 w21 w22 w23 w24 w25 w26 w27 w28 w29 w30 w31 w32 w33 w52 w53 (fun _ => 0) (((xs (1 : Int32).toNatClampNeg).toUInt32 % 65536).toInt32) (((xs (2 : Int32).toNatClampNeg).toUInt32 % 65536).toInt32) (xs (3 : Int32).toNatClampNeg) 0 1 0 hok H.size) (tcSW 8 hq q_682 q_0 q_680 q_681 rfl rfl (by decide +kernel) ⟨Nat.le_of_ble_eq_true rfl, Nat.le_of_ble_eq_true rfl⟩) (pre.S (pre.of hPc hDc hKc ham hS hFc)) rfl rfl hl.1 rfl (lv_room (Nat.le_of_ble_eq_true rfl)) dL_law_281 ⟨Nat.le_of_ble_eq_true rfl, Nat.le_of_ble_eq_true rfl⟩) hS (fun q _ h => hFc q h) hFc (fun q _ h => hFc q h) (fun E ce q9 u t H1 locs ht hvm hpx hB hz1 hk1 hS hce hcv hcl => ?_) (fun r_23 u t H1 locs ht hvm hw hB hz1 hk1 hS => ?_)
          · exact (hB : False).elim
          · obtain ⟨hP1, hK1, hD1⟩ := hB
            rw [ht] at hP1
            have hK1 := va_K.moved hvm.symm hK1
            obtain ⟨hP, hD⟩ := va_join (wr := [(w34, .inr (12, [.int 0, .ref w35, .ref w36, .ref w37, .int (-1), .int (-1), .int 0, .ref w38, .ref w39, .ref w40, .ref w41, .ref w42, .ref w43, .ref w44, .ref w45, .ref w46, .int 0, .int 0, .null, .int 0, .int 45, .ref w47, .ref w48, .ref w49, .ref w50, .ref w51])), (w35, .inr (14, [.int 0, .ref tE, .int 0])), (w36, .inr (14, [.int 0, .ref tE, .int 0])), (w54, .inl (w55, 1, .inr (.inr (.inr (.inl (fun _ => 0))))))]) (w1 := [(w52, .inl (w53, 1, .inr (.inl (vp_updL (fun _ => 0) (0 : Int32).toNatClampNeg 0))))]) (wc := [(w0, .inr (10, [.ref w1, .ref w2, .ref w3, .ref w4, .ref w5, .ref w6, .ref w7, .ref w8])), (w1, .inr (7, [.ref w9, .ref w10, .ref w11, .ref w12, .ref w13, .ref w14, .ref w15, .int 0])), (w9, .inl (w16, 8, .inl (fun _ => 0))), (w10, .inl (w17, 8, .inl (fun _ => 0))), (w11, .inl (w18, 8, .inl (fun _ => 0))), (w12, .inl (w19, 8, .inl (fun _ => 0))), (w13, .inl (w20, 8, .inl (fun _ => 0))), (w14, .inl (w21, 8, .inl (fun _ => 0))), (w15, .inl (w22, 8, .inl (fun _ => 0))), (w2, .inr (2, [.ref w23, .ref w24, .ref w25, .int 0, .int (-1), .int (-1)])), (w3, .inr (4, [.ref w26, .ref w27, .ref w28, .int 0, .int 0, .int 0, .int 45])), (w26, .inr (3, [.ref w1, .ref w2, .ref w29, .ref w30, .ref w31, .ref w32, .ref w33, .int 0, .int 0])), (w52, .inl (w53, 1, .inr (.inl (fun _ => 0))))]) hP hD [0, 1, 2, 3, 4, 5, 6, 7, 8, 9, 10, 11, 15] [12, 13, 14, 16] rfl rfl (by decide) (by decide) hk1 hFc hP1 hD1
            have hK := (hK.sub (tys' := [(w16, .char), (w17, .char), (w18, .int), (w19, .boolean), (w20, .boolean), (w21, .boolean), (w22, .int), (w53, .long), (w55, .double)]) [0, 1, 2, 3, 4, 5, 6, 7, 8] rfl).app hK1
            generalize H1 = H at hP hS ⊢
            have hP : va_P (dC, dI) cls [(w34, .inr (12, [.int 0, .ref w35, .ref w36, .ref w37, .int (-1), .int (-1), .int 0, .ref w38, .ref w39, .ref w40, .ref w41, .ref w42, .ref w43, .ref w44, .ref w45, .ref w46, .int 0, .int 0, .null, .int 0, .int 45, .ref w47, .ref w48, .ref w49, .ref w50, .ref w51])), (w35, .inr (14, [.int 0, .ref tE, .int 0])), (w36, .inr (14, [.int 0, .ref tE, .int 0])), (w54, .inl (w55, 1, .inr (.inr (.inr (.inl (fun _ => 0)))))), (w52, .inl (w53, 1, .inr (.inl (vp_updL (fun _ => 0) (0 : Int32).toNatClampNeg 0))))] H := hP
            have hD : va_D A [(w34, .inr (12, [.int 0, .ref w35, .ref w36, .ref w37, .int (-1), .int (-1), .int 0, .ref w38, .ref w39, .ref w40, .ref w41, .ref w42, .ref w43, .ref w44, .ref w45, .ref w46, .int 0, .int 0, .null, .int 0, .int 45, .ref w47, .ref w48, .ref w49, .ref w50, .ref w51])), (w35, .inr (14, [.int 0, .ref tE, .int 0])), (w36, .inr (14, [.int 0, .ref tE, .int 0])), (w54, .inl (w55, 1, .inr (.inr (.inr (.inl (fun _ => 0)))))), (w52, .inl (w53, 1, .inr (.inl (vp_updL (fun _ => 0) (0 : Int32).toNatClampNeg 0))))] := hD
            have hK : va_K (dC, dI) cls [(w16, .char), (w17, .char), (w18, .int), (w19, .boolean), (w20, .boolean), (w21, .boolean), (w22, .int), (w53, .long), (w55, .double), (w53, .long)] s := hK
            refine W.widen (k := 91) (n := 4902) (Nat.le_of_ble_eq_true rfl) (Nat.le_of_ble_eq_true rfl) ?_
            have hw : r_23 = 0 := hw
            subst hw
            refine lv_istore (lv' := [(6, .int 0), (5, .int 0), (4, .ref w54), (3, .ref w52), (2, .ref w34), (1, .ref w0), (0, .ref b)]) hx hb dL_law_284 hl (by decide) rfl (fun ls hl => ?_)
            refine lv_aload_n hx hb dL_law_286 rfl (lv_at hl 4 rfl) ?_
            refine lv_aload_n hx hb dL_law_287 rfl (lv_at hl 6 rfl) ?_
            refine lv_iload hx hb dL_law_288 (lv_at hl 1 rfl) ?_
            refine lv_iconst (v := 1) hx hb dL_law_290 (by decide) ?_
            refine lv_iadd hx hb dL_law_291 ?_
            refine W.eq (congrArg (fun z : Int32 => F0 m 292 ls (.int z :: [.ref b, .ref w34])) (by decide : (0 + 1 : Int32) = 1)) ?_
            refine va_sld hx hb hX hbl hbA hS (i := 1) (by unfold vp_in; decide) dL_law_292 ?_
            refine lv_i2c (v := ((xs (1 : Int32).toNatClampNeg).toUInt32 % 65536).toInt32) hx hb dL_law_293 rfl ?_
            refine lv_aload_n hx hb dL_law_294 rfl (lv_at hl 6 rfl) ?_
            refine lv_iload hx hb dL_law_295 (lv_at hl 1 rfl) ?_
            refine lv_iconst (v := 2) hx hb dL_law_297 (by decide) ?_
            refine lv_iadd hx hb dL_law_298 ?_
            refine W.eq (congrArg (fun z : Int32 => F0 m 299 ls (.int z :: [.ref b, .int (((xs (1 : Int32).toNatClampNeg).toUInt32 % 65536).toInt32), .ref w34])) (by decide : (0 + 2 : Int32) = 2)) ?_
            refine va_sld hx hb hX hbl hbA hS (i := 2) (by unfold vp_in; decide) dL_law_299 ?_
            refine lv_i2c (v := ((xs (2 : Int32).toNatClampNeg).toUInt32 % 65536).toInt32) hx hb dL_law_300 rfl ?_
            refine lv_aload_n hx hb dL_law_301 rfl (lv_at hl 6 rfl) ?_
            refine lv_iload hx hb dL_law_302 (lv_at hl 1 rfl) ?_
            refine lv_iconst (v := 3) hx hb dL_law_304 (by decide) ?_
            refine lv_iadd hx hb dL_law_305 ?_
            refine W.eq (congrArg (fun z : Int32 => F0 m 306 ls (.int z :: [.ref b, .int (((xs (2 : Int32).toNatClampNeg).toUInt32 % 65536).toInt32), .int (((xs (1 : Int32).toNatClampNeg).toUInt32 % 65536).toInt32), .ref w34])) (by decide : (0 + 3 : Int32) = 3)) ?_
            refine va_sld hx hb hX hbl hbA hS (i := 3) (by unfold vp_in; decide) dL_law_306 ?_
            refine lv_aload_n hx hb dL_law_307 rfl (lv_at hl 6 rfl) ?_
            refine lv_iload hx hb dL_law_308 (lv_at hl 1 rfl) ?_
            refine lv_iconst (v := 4) hx hb dL_law_310 (by decide) ?_
            refine lv_iadd hx hb dL_law_311 ?_
            refine W.eq (congrArg (fun z : Int32 => F0 m 312 ls (.int z :: [.ref b, .int (xs (3 : Int32).toNatClampNeg), .int (((xs (2 : Int32).toNatClampNeg).toUInt32 % 65536).toInt32), .int (((xs (1 : Int32).toNatClampNeg).toUInt32 % 65536).toInt32), .ref w34])) (by decide : (0 + 4 : Int32) = 4)) ?_
            refine va_sld hx hb hX hbl hbA hS (i := 4) (by unfold vp_in; decide) dL_law_312 ?_
            refine lv_if_eq (tgt := 320) hx hb dL_law_313 (by decide) (fun c_24 => ?_) (fun c_24 => ?_)
            · refine lv_iconst (v := 0) hx hb dL_law_320 (by decide) ?_
              refine lv_aload_n hx hb dL_law_321 rfl (lv_at hl 6 rfl) ?_
              refine lv_iload hx hb dL_law_322 (lv_at hl 1 rfl) ?_
              refine lv_iconst (v := 5) hx hb dL_law_324 (by decide) ?_
              refine lv_iadd hx hb dL_law_325 ?_
              refine W.eq (congrArg (fun z : Int32 => F0 m 326 ls (.int z :: [.ref b, .int 0, .int (xs (3 : Int32).toNatClampNeg), .int (((xs (2 : Int32).toNatClampNeg).toUInt32 % 65536).toInt32), .int (((xs (1 : Int32).toNatClampNeg).toUInt32 % 65536).toInt32), .ref w34])) (by decide : (0 + 5 : Int32) = 5)) ?_
              refine va_sld hx hb hX hbl hbA hS (i := 5) (by unfold vp_in; decide) dL_law_326 ?_
              refine lv_if_eq (tgt := 334) hx hb dL_law_327 (by decide) (fun c_25 => ?_) (fun c_25 => ?_)
              · exact absurd c_25 c_2
              · refine lv_iconst (v := 1) hx hb dL_law_330 (by decide) ?_
                refine lv_goto (tgt := 335) hx hb dL_law_331 (by decide) ?_
                refine lv_aload_n hx hb dL_law_335 rfl (lv_at hl 6 rfl) ?_
                refine lv_iload hx hb dL_law_336 (lv_at hl 1 rfl) ?_
                refine lv_bipush (v := 6) hx hb dL_law_338 (by decide) ?_
                refine lv_iadd hx hb dL_law_340 ?_
                refine W.eq (congrArg (fun z : Int32 => F0 m 341 ls (.int z :: [.ref b, .int 1, .int 0, .int (xs (3 : Int32).toNatClampNeg), .int (((xs (2 : Int32).toNatClampNeg).toUInt32 % 65536).toInt32), .int (((xs (1 : Int32).toNatClampNeg).toUInt32 % 65536).toInt32), .ref w34])) (by decide : (0 + 6 : Int32) = 6)) ?_
                refine va_sld hx hb hX hbl hbA hS (i := 6) (by unfold vp_in; decide) dL_law_341 ?_
                refine lv_if_eq (tgt := 349) hx hb dL_law_342 (by decide) (fun c_26 => ?_) (fun c_26 => ?_)
                · refine lv_iconst (v := 0) hx hb dL_law_349 (by decide) ?_
                  have hPc := hP.sub (ws' := [(w34, .inr (12, [.int 0, .ref w35, .ref w36, .ref w37, .int (-1), .int (-1), .int 0, .ref w38, .ref w39, .ref w40, .ref w41, .ref w42, .ref w43, .ref w44, .ref w45, .ref w46, .int 0, .int 0, .null, .int 0, .int 45, .ref w47, .ref w48, .ref w49, .ref w50, .ref w51])), (w35, .inr (14, [.int 0, .ref tE, .int 0])), (w36, .inr (14, [.int 0, .ref tE, .int 0]))]) [0, 1, 2] rfl
                  have hKc := hK.sub (tys' := []) [] rfl
                  have hDc := hD.sub (ws' := [(w34, .inr (12, [.int 0, .ref w35, .ref w36, .ref w37, .int (-1), .int (-1), .int 0, .ref w38, .ref w39, .ref w40, .ref w41, .ref w42, .ref w43, .ref w44, .ref w45, .ref w46, .int 0, .int 0, .null, .int 0, .int 45, .ref w47, .ref w48, .ref w49, .ref w50, .ref w51])), (w35, .inr (14, [.int 0, .ref tE, .int 0])), (w36, .inr (14, [.int 0, .ref tE, .int 0]))]) [0, 1, 2] (by decide) rfl
                  have hFc := va_free (wc := [(w34, .inr (12, [.int 0, .ref w35, .ref w36, .ref w37, .int (-1), .int (-1), .int 0, .ref w38, .ref w39, .ref w40, .ref w41, .ref w42, .ref w43, .ref w44, .ref w45, .ref w46, .int 0, .int 0, .null, .int 0, .int 45, .ref w47, .ref w48, .ref w49, .ref w50, .ref w51])), (w35, .inr (14, [.int 0, .ref tE, .int 0])), (w36, .inr (14, [.int 0, .ref tE, .int 0]))]) hD hS hA [0, 1, 2] rfl
                  refine va_calli (va_runV (As := [.int (((xs (1 : Int32).toNatClampNeg).toUInt32 % 65536).toInt32), .int (((xs (2 : Int32).toNatClampNeg).toUInt32 % 65536).toInt32), .int (xs (3 : Int32).toNatClampNeg), .int 0, .int 1, .int 0]) (rest := []) ⟨hx, hb, hml, hown, hq⟩ (c_M_role_ok l hst tE adK adV dC dI w34 w35 w36 w37 w38 w39 w40 w41 w42 w43 w44 w45 w46 w47 w48 w49 w50 w51 0 (((xs (1 : Int32).toNatClampNeg).toUInt32 % 65536).toInt32) (((xs (2 : Int32).toNatClampNeg).toUInt32 % 65536).toInt32) (xs (3 : Int32).toNatClampNeg) 0 1 0 hok (Or.inl rfl) (Or.inr rfl) (Or.inl rfl) H.size) (tcV 6 hq q_1386 q_12 q_1383 q_1384 q_1385 rfl rfl (by decide +kernel) ⟨Nat.le_of_ble_eq_true rfl, Nat.le_of_ble_eq_true rfl⟩) (pre.V (va_recv hK hP (ci := 12) (q0 := 0) rfl rfl) (pre.of hPc hDc hKc ham hS hFc)) rfl rfl hl.1 rfl (lv_room (Nat.le_of_ble_eq_true rfl)) dL_law_350 ⟨Nat.le_of_ble_eq_true rfl, Nat.le_of_ble_eq_true rfl⟩) hS (fun q _ h => hFc q h) hFc (fun r_27 u t H1 locs ht hvm hw hB hz1 hk1 hS => ?_)
                  obtain ⟨hP1, hK1, hD1⟩ := hB
                  rw [ht] at hP1
                  have hK1 := va_K.moved hvm.symm hK1
                  obtain ⟨hP, hD⟩ := va_join (wr := [(w54, .inl (w55, 1, .inr (.inr (.inr (.inl (fun _ => 0)))))), (w52, .inl (w53, 1, .inr (.inl (vp_updL (fun _ => 0) (0 : Int32).toNatClampNeg 0))))]) (w1 := [(w34, .inr (12, [.int 0, .ref w35, .ref w36, .ref w37, .int (-1), .int (-1), .int 0, .ref w38, .ref w39, .ref w40, .ref w41, .ref w42, .ref w43, .ref w44, .ref w45, .ref w46, .int 0, .int 0, .null, .int 0, .int 45, .ref w47, .ref w48, .ref w49, .ref w50, .ref w51]))]) (wc := [(w34, .inr (12, [.int 0, .ref w35, .ref w36, .ref w37, .int (-1), .int (-1), .int 0, .ref w38, .ref w39, .ref w40, .ref w41, .ref w42, .ref w43, .ref w44, .ref w45, .ref w46, .int 0, .int 0, .null, .int 0, .int 45, .ref w47, .ref w48, .ref w49, .ref w50, .ref w51])), (w35, .inr (14, [.int 0, .ref tE, .int 0])), (w36, .inr (14, [.int 0, .ref tE, .int 0]))]) hP hD [0, 1, 2] [3, 4] rfl rfl (by decide) (by decide) hk1 hFc hP1 hD1
                  have hK := (hK.sub (tys' := [(w16, .char), (w17, .char), (w18, .int), (w19, .boolean), (w20, .boolean), (w21, .boolean), (w22, .int), (w53, .long), (w55, .double), (w53, .long)]) [0, 1, 2, 3, 4, 5, 6, 7, 8, 9] rfl).app hK1
                  generalize H1 = H at hP hS ⊢
                  have hP : va_P (dC, dI) cls [(w54, .inl (w55, 1, .inr (.inr (.inr (.inl (fun _ => 0)))))), (w52, .inl (w53, 1, .inr (.inl (vp_updL (fun _ => 0) (0 : Int32).toNatClampNeg 0)))), (w34, .inr (12, [.int 0, .ref w35, .ref w36, .ref w37, .int (-1), .int (-1), .int 0, .ref w38, .ref w39, .ref w40, .ref w41, .ref w42, .ref w43, .ref w44, .ref w45, .ref w46, .int 0, .int 0, .null, .int 0, .int 45, .ref w47, .ref w48, .ref w49, .ref w50, .ref w51]))] H := hP
                  have hD : va_D A [(w54, .inl (w55, 1, .inr (.inr (.inr (.inl (fun _ => 0)))))), (w52, .inl (w53, 1, .inr (.inl (vp_updL (fun _ => 0) (0 : Int32).toNatClampNeg 0)))), (w34, .inr (12, [.int 0, .ref w35, .ref w36, .ref w37, .int (-1), .int (-1), .int 0, .ref w38, .ref w39, .ref w40, .ref w41, .ref w42, .ref w43, .ref w44, .ref w45, .ref w46, .int 0, .int 0, .null, .int 0, .int 45, .ref w47, .ref w48, .ref w49, .ref w50, .ref w51]))] := hD
                  have hK : va_K (dC, dI) cls [(w16, .char), (w17, .char), (w18, .int), (w19, .boolean), (w20, .boolean), (w21, .boolean), (w22, .int), (w53, .long), (w55, .double), (w53, .long)] s := hK
                  refine W.widen (k := 93) (n := 4919) (Nat.le_of_ble_eq_true rfl) (Nat.le_of_ble_eq_true rfl) ?_
                  have hw : r_27 = 0 := hw
                  subst hw
                  refine lv_istore (lv' := [(7, .int 0), (6, .int 0), (5, .int 0), (4, .ref w54), (3, .ref w52), (2, .ref w34), (1, .ref w0), (0, .ref b)]) hx hb dL_law_353 hl (by decide) rfl (fun ls hl => ?_)
                  refine lv_aload_n hx hb dL_law_355 rfl (lv_at hl 5 rfl) ?_
                  have hPc := hP.sub (ws' := [(w34, .inr (12, [.int 0, .ref w35, .ref w36, .ref w37, .int (-1), .int (-1), .int 0, .ref w38, .ref w39, .ref w40, .ref w41, .ref w42, .ref w43, .ref w44, .ref w45, .ref w46, .int 0, .int 0, .null, .int 0, .int 45, .ref w47, .ref w48, .ref w49, .ref w50, .ref w51]))]) [2] rfl
                  have hKc := hK.sub (tys' := []) [] rfl
                  refine va_calli (va_runV (As := []) (rest := []) ⟨hx, hb, hml, hown, hq⟩ (c_thrown l hst tE adK adV dC dI w34 w35 w36 w37 w38 w39 w40 w41 w42 w43 w44 w45 w46 w47 w48 w49 w50 w51 0 H.size) (tcV 0 hq q_1264 q_12 q_1261 q_1262 q_1263 rfl rfl (by decide +kernel) ⟨Nat.le_of_ble_eq_true rfl, Nat.le_of_ble_eq_true rfl⟩) (preR.V (va_recv hK hP (ci := 12) (q0 := 2) rfl rfl) (preR.of hPc hKc ham hS hA)) rfl rfl hl.1 rfl (lv_room (Nat.le_of_ble_eq_true rfl)) dL_law_356 ⟨Nat.le_of_ble_eq_true rfl, Nat.le_of_ble_eq_true rfl⟩) hS (fun q _ h => hA q (Nat.le_trans hS.1 h)) (fun q h => hA q (Nat.le_trans hS.1 h)) (fun r_28 u t H1 locs ht hvm hw hB hz1 hk1 hS => ?_)
                  have hP : va_P (dC, dI) cls [(w54, .inl (w55, 1, .inr (.inr (.inr (.inl (fun _ => 0)))))), (w52, .inl (w53, 1, .inr (.inl (vp_updL (fun _ => 0) (0 : Int32).toNatClampNeg 0)))), (w34, .inr (12, [.int 0, .ref w35, .ref w36, .ref w37, .int (-1), .int (-1), .int 0, .ref w38, .ref w39, .ref w40, .ref w41, .ref w42, .ref w43, .ref w44, .ref w45, .ref w46, .int 0, .int 0, .null, .int 0, .int 45, .ref w47, .ref w48, .ref w49, .ref w50, .ref w51]))] H1 := ro_keep hP hk1
                  generalize H1 = H at hP hS ⊢
                  refine W.widen (k := 93) (n := 4919) (Nat.le_of_ble_eq_true rfl) (Nat.le_of_ble_eq_true rfl) ?_
                  have hw : r_28 = 0 := hw
                  subst hw
                  refine lv_iload hx hb dL_law_359 (lv_at hl 1 rfl) ?_
                  refine lv_icmp_eq (tgt := 366) hx hb dL_law_361 (by decide) (fun c_29 => ?_) (fun c_29 => ?_)
                  · refine lv_iload hx hb dL_law_366 (lv_at hl 1 rfl) ?_
                    refine lv_if_ne (tgt := 383) hx hb dL_law_368 (by decide) (fun c_30 => ?_) (fun c_30 => ?_)
                    · exact absurd c_30 (by decide)
                    · refine lv_aload_n hx hb dL_law_371 rfl (lv_at hl 4 rfl) ?_
                      refine lv_iconst (v := 0) hx hb dL_law_372 (by decide) ?_
                      refine va_lald hx hb hK hP 1 7 rfl rfl (by unfold vp_in; decide) dL_law_373 ?_
                      refine W.eq (congrArg (fun z : Int64 => F0 m 374 ls (.long z :: [])) pk_uLs) ?_
                      refine lv_iload hx hb dL_law_374 (lv_at hl 0 rfl) ?_
                      refine lv_i2l (v := 0) hx hb dL_law_376 (by decide) ?_
                      refine W.lcmp hx hb dL_law_377 ?_
                      refine W.eq (congrArg (fun z : Int32 => F0 m 378 ls (.int z :: [])) (by decide : lg_cmp 0 0 = 0)) ?_
                      refine lv_if_eq (tgt := 383) hx hb dL_law_378 (by decide) (fun c_31 => ?_) (fun c_31 => ?_)
                      · refine lv_goto (tgt := 2585) hx hb dL_law_383 (by decide) ?_
                        refine W.widen (k := 600002) (n := 7302232) (Nat.le_of_ble_eq_true rfl) (Nat.le_of_ble_eq_true rfl) ?_
                        exact law_end C0 hA hA2 hS (lv_sub hl [7, 2] rfl)
                      · exact absurd c_31 (by decide)
                  · exact absurd c_29 (by decide)
                · exact absurd c_22 c_26
            · exact absurd c_1 c_24
        · refine lv_iconst (v := 1) hx hb dL_law_275 (by decide) ?_
          refine lv_goto (tgt := 280) hx hb dL_law_276 (by decide) ?_
          refine lv_aload_n hx hb dL_law_280 rfl (lv_at hl 2 rfl) ?_
          have hPc := hP.sub (ws' := [(w0, .inr (10, [.ref w1, .ref w2, .ref w3, .ref w4, .ref w5, .ref w6, .ref w7, .ref w8])), (w1, .inr (7, [.ref w9, .ref w10, .ref w11, .ref w12, .ref w13, .ref w14, .ref w15, .int 0])), (w9, .inl (w16, 8, .inl (fun _ => 0))), (w10, .inl (w17, 8, .inl (fun _ => 0))), (w11, .inl (w18, 8, .inl (fun _ => 0))), (w12, .inl (w19, 8, .inl (fun _ => 0))), (w13, .inl (w20, 8, .inl (fun _ => 0))), (w14, .inl (w21, 8, .inl (fun _ => 0))), (w15, .inl (w22, 8, .inl (fun _ => 0))), (w2, .inr (2, [.ref w23, .ref w24, .ref w25, .int 0, .int (-1), .int (-1)])), (w3, .inr (4, [.ref w26, .ref w27, .ref w28, .int 0, .int 0, .int 0, .int 45])), (w26, .inr (3, [.ref w1, .ref w2, .ref w29, .ref w30, .ref w31, .ref w32, .ref w33, .int 0, .int 0])), (w52, .inl (w53, 1, .inr (.inl (fun _ => 0))))]) [0, 1, 2, 3, 4, 5, 6, 7, 8, 9, 10, 11, 15] rfl
          have hKc := hK.sub (tys' := [(w16, .char), (w17, .char), (w18, .int), (w19, .boolean), (w20, .boolean), (w21, .boolean), (w22, .int), (w53, .long)]) [0, 1, 2, 3, 4, 5, 6, 7] rfl
          have hDc := hD.sub (ws' := [(w0, .inr (10, [.ref w1, .ref w2, .ref w3, .ref w4, .ref w5, .ref w6, .ref w7, .ref w8])), (w1, .inr (7, [.ref w9, .ref w10, .ref w11, .ref w12, .ref w13, .ref w14, .ref w15, .int 0])), (w9, .inl (w16, 8, .inl (fun _ => 0))), (w10, .inl (w17, 8, .inl (fun _ => 0))), (w11, .inl (w18, 8, .inl (fun _ => 0))), (w12, .inl (w19, 8, .inl (fun _ => 0))), (w13, .inl (w20, 8, .inl (fun _ => 0))), (w14, .inl (w21, 8, .inl (fun _ => 0))), (w15, .inl (w22, 8, .inl (fun _ => 0))), (w2, .inr (2, [.ref w23, .ref w24, .ref w25, .int 0, .int (-1), .int (-1)])), (w3, .inr (4, [.ref w26, .ref w27, .ref w28, .int 0, .int 0, .int 0, .int 45])), (w26, .inr (3, [.ref w1, .ref w2, .ref w29, .ref w30, .ref w31, .ref w32, .ref w33, .int 0, .int 0])), (w52, .inl (w53, 1, .inr (.inl (fun _ => 0))))]) [0, 1, 2, 3, 4, 5, 6, 7, 8, 9, 10, 11, 15] (by decide) rfl
          have hFc := va_free (wc := [(w0, .inr (10, [.ref w1, .ref w2, .ref w3, .ref w4, .ref w5, .ref w6, .ref w7, .ref w8])), (w1, .inr (7, [.ref w9, .ref w10, .ref w11, .ref w12, .ref w13, .ref w14, .ref w15, .int 0])), (w9, .inl (w16, 8, .inl (fun _ => 0))), (w10, .inl (w17, 8, .inl (fun _ => 0))), (w11, .inl (w18, 8, .inl (fun _ => 0))), (w12, .inl (w19, 8, .inl (fun _ => 0))), (w13, .inl (w20, 8, .inl (fun _ => 0))), (w14, .inl (w21, 8, .inl (fun _ => 0))), (w15, .inl (w22, 8, .inl (fun _ => 0))), (w2, .inr (2, [.ref w23, .ref w24, .ref w25, .int 0, .int (-1), .int (-1)])), (w3, .inr (4, [.ref w26, .ref w27, .ref w28, .int 0, .int 0, .int 0, .int 45])), (w26, .inr (3, [.ref w1, .ref w2, .ref w29, .ref w30, .ref w31, .ref w32, .ref w33, .int 0, .int 0])), (w52, .inl (w53, 1, .inr (.inl (fun _ => 0))))]) hD hS hA [0, 1, 2, 3, 4, 5, 6, 7, 8, 9, 10, 11, 15] rfl
          refine vx_calli (vx_runSX (As := [.ref w0, .int (((xs (1 : Int32).toNatClampNeg).toUInt32 % 65536).toInt32), .int (((xs (2 : Int32).toNatClampNeg).toUInt32 % 65536).toInt32), .int (xs (3 : Int32).toNatClampNeg), .int 0, .int 1, .int 1, .ref w52]) (rest := []) ⟨hx, hb, hml, hown, hq⟩ (c_L_role_ok l hst tE adK adV dC dI w0 w1 w2 w3 w4 w5 w6 w7 w8 w9 w10 w11 w12 w13 w14 w15 w16 w17 w18 w19 w20 w21 w22 w23 w24 w25 w26 w27 w28 w29 w30 w31 w32 w33 w52 w53 (fun _ => 0) (((xs (1 : Int32).toNatClampNeg).toUInt32 % 65536).toInt32) (((xs (2 : Int32).toNatClampNeg).toUInt32 % 65536).toInt32) (xs (3 : Int32).toNatClampNeg) 0 1 1 hok H.size) (tcSW 8 hq q_682 q_0 q_680 q_681 rfl rfl (by decide +kernel) ⟨Nat.le_of_ble_eq_true rfl, Nat.le_of_ble_eq_true rfl⟩) (pre.S (pre.of hPc hDc hKc ham hS hFc)) rfl rfl hl.1 rfl (lv_room (Nat.le_of_ble_eq_true rfl)) dL_law_281 ⟨Nat.le_of_ble_eq_true rfl, Nat.le_of_ble_eq_true rfl⟩) hS (fun q _ h => hFc q h) hFc (fun q _ h => hFc q h) (fun E ce q9 u t H1 locs ht hvm hpx hB hz1 hk1 hS hce hcv hcl => ?_) (fun r_32 u t H1 locs ht hvm hw hB hz1 hk1 hS => ?_)
          · exact (hB : False).elim
          · obtain ⟨hP1, hK1, hD1⟩ := hB
            rw [ht] at hP1
            have hK1 := va_K.moved hvm.symm hK1
            obtain ⟨hP, hD⟩ := va_join (wr := [(w34, .inr (12, [.int 0, .ref w35, .ref w36, .ref w37, .int (-1), .int (-1), .int 0, .ref w38, .ref w39, .ref w40, .ref w41, .ref w42, .ref w43, .ref w44, .ref w45, .ref w46, .int 0, .int 0, .null, .int 0, .int 45, .ref w47, .ref w48, .ref w49, .ref w50, .ref w51])), (w35, .inr (14, [.int 0, .ref tE, .int 0])), (w36, .inr (14, [.int 0, .ref tE, .int 0])), (w54, .inl (w55, 1, .inr (.inr (.inr (.inl (fun _ => 0))))))]) (w1 := [(w52, .inl (w53, 1, .inr (.inl (vp_updL (fun _ => 0) (0 : Int32).toNatClampNeg 0))))]) (wc := [(w0, .inr (10, [.ref w1, .ref w2, .ref w3, .ref w4, .ref w5, .ref w6, .ref w7, .ref w8])), (w1, .inr (7, [.ref w9, .ref w10, .ref w11, .ref w12, .ref w13, .ref w14, .ref w15, .int 0])), (w9, .inl (w16, 8, .inl (fun _ => 0))), (w10, .inl (w17, 8, .inl (fun _ => 0))), (w11, .inl (w18, 8, .inl (fun _ => 0))), (w12, .inl (w19, 8, .inl (fun _ => 0))), (w13, .inl (w20, 8, .inl (fun _ => 0))), (w14, .inl (w21, 8, .inl (fun _ => 0))), (w15, .inl (w22, 8, .inl (fun _ => 0))), (w2, .inr (2, [.ref w23, .ref w24, .ref w25, .int 0, .int (-1), .int (-1)])), (w3, .inr (4, [.ref w26, .ref w27, .ref w28, .int 0, .int 0, .int 0, .int 45])), (w26, .inr (3, [.ref w1, .ref w2, .ref w29, .ref w30, .ref w31, .ref w32, .ref w33, .int 0, .int 0])), (w52, .inl (w53, 1, .inr (.inl (fun _ => 0))))]) hP hD [0, 1, 2, 3, 4, 5, 6, 7, 8, 9, 10, 11, 15] [12, 13, 14, 16] rfl rfl (by decide) (by decide) hk1 hFc hP1 hD1
            have hK := (hK.sub (tys' := [(w16, .char), (w17, .char), (w18, .int), (w19, .boolean), (w20, .boolean), (w21, .boolean), (w22, .int), (w53, .long), (w55, .double)]) [0, 1, 2, 3, 4, 5, 6, 7, 8] rfl).app hK1
            generalize H1 = H at hP hS ⊢
            have hP : va_P (dC, dI) cls [(w34, .inr (12, [.int 0, .ref w35, .ref w36, .ref w37, .int (-1), .int (-1), .int 0, .ref w38, .ref w39, .ref w40, .ref w41, .ref w42, .ref w43, .ref w44, .ref w45, .ref w46, .int 0, .int 0, .null, .int 0, .int 45, .ref w47, .ref w48, .ref w49, .ref w50, .ref w51])), (w35, .inr (14, [.int 0, .ref tE, .int 0])), (w36, .inr (14, [.int 0, .ref tE, .int 0])), (w54, .inl (w55, 1, .inr (.inr (.inr (.inl (fun _ => 0)))))), (w52, .inl (w53, 1, .inr (.inl (vp_updL (fun _ => 0) (0 : Int32).toNatClampNeg 0))))] H := hP
            have hD : va_D A [(w34, .inr (12, [.int 0, .ref w35, .ref w36, .ref w37, .int (-1), .int (-1), .int 0, .ref w38, .ref w39, .ref w40, .ref w41, .ref w42, .ref w43, .ref w44, .ref w45, .ref w46, .int 0, .int 0, .null, .int 0, .int 45, .ref w47, .ref w48, .ref w49, .ref w50, .ref w51])), (w35, .inr (14, [.int 0, .ref tE, .int 0])), (w36, .inr (14, [.int 0, .ref tE, .int 0])), (w54, .inl (w55, 1, .inr (.inr (.inr (.inl (fun _ => 0)))))), (w52, .inl (w53, 1, .inr (.inl (vp_updL (fun _ => 0) (0 : Int32).toNatClampNeg 0))))] := hD
            have hK : va_K (dC, dI) cls [(w16, .char), (w17, .char), (w18, .int), (w19, .boolean), (w20, .boolean), (w21, .boolean), (w22, .int), (w53, .long), (w55, .double), (w53, .long)] s := hK
            refine W.widen (k := 91) (n := 4902) (Nat.le_of_ble_eq_true rfl) (Nat.le_of_ble_eq_true rfl) ?_
            have hw : r_32 = 0 := hw
            subst hw
            refine lv_istore (lv' := [(6, .int 0), (5, .int 0), (4, .ref w54), (3, .ref w52), (2, .ref w34), (1, .ref w0), (0, .ref b)]) hx hb dL_law_284 hl (by decide) rfl (fun ls hl => ?_)
            refine lv_aload_n hx hb dL_law_286 rfl (lv_at hl 4 rfl) ?_
            refine lv_aload_n hx hb dL_law_287 rfl (lv_at hl 6 rfl) ?_
            refine lv_iload hx hb dL_law_288 (lv_at hl 1 rfl) ?_
            refine lv_iconst (v := 1) hx hb dL_law_290 (by decide) ?_
            refine lv_iadd hx hb dL_law_291 ?_
            refine W.eq (congrArg (fun z : Int32 => F0 m 292 ls (.int z :: [.ref b, .ref w34])) (by decide : (0 + 1 : Int32) = 1)) ?_
            refine va_sld hx hb hX hbl hbA hS (i := 1) (by unfold vp_in; decide) dL_law_292 ?_
            refine lv_i2c (v := ((xs (1 : Int32).toNatClampNeg).toUInt32 % 65536).toInt32) hx hb dL_law_293 rfl ?_
            refine lv_aload_n hx hb dL_law_294 rfl (lv_at hl 6 rfl) ?_
            refine lv_iload hx hb dL_law_295 (lv_at hl 1 rfl) ?_
            refine lv_iconst (v := 2) hx hb dL_law_297 (by decide) ?_
            refine lv_iadd hx hb dL_law_298 ?_
            refine W.eq (congrArg (fun z : Int32 => F0 m 299 ls (.int z :: [.ref b, .int (((xs (1 : Int32).toNatClampNeg).toUInt32 % 65536).toInt32), .ref w34])) (by decide : (0 + 2 : Int32) = 2)) ?_
            refine va_sld hx hb hX hbl hbA hS (i := 2) (by unfold vp_in; decide) dL_law_299 ?_
            refine lv_i2c (v := ((xs (2 : Int32).toNatClampNeg).toUInt32 % 65536).toInt32) hx hb dL_law_300 rfl ?_
            refine lv_aload_n hx hb dL_law_301 rfl (lv_at hl 6 rfl) ?_
            refine lv_iload hx hb dL_law_302 (lv_at hl 1 rfl) ?_
            refine lv_iconst (v := 3) hx hb dL_law_304 (by decide) ?_
            refine lv_iadd hx hb dL_law_305 ?_
            refine W.eq (congrArg (fun z : Int32 => F0 m 306 ls (.int z :: [.ref b, .int (((xs (2 : Int32).toNatClampNeg).toUInt32 % 65536).toInt32), .int (((xs (1 : Int32).toNatClampNeg).toUInt32 % 65536).toInt32), .ref w34])) (by decide : (0 + 3 : Int32) = 3)) ?_
            refine va_sld hx hb hX hbl hbA hS (i := 3) (by unfold vp_in; decide) dL_law_306 ?_
            refine lv_aload_n hx hb dL_law_307 rfl (lv_at hl 6 rfl) ?_
            refine lv_iload hx hb dL_law_308 (lv_at hl 1 rfl) ?_
            refine lv_iconst (v := 4) hx hb dL_law_310 (by decide) ?_
            refine lv_iadd hx hb dL_law_311 ?_
            refine W.eq (congrArg (fun z : Int32 => F0 m 312 ls (.int z :: [.ref b, .int (xs (3 : Int32).toNatClampNeg), .int (((xs (2 : Int32).toNatClampNeg).toUInt32 % 65536).toInt32), .int (((xs (1 : Int32).toNatClampNeg).toUInt32 % 65536).toInt32), .ref w34])) (by decide : (0 + 4 : Int32) = 4)) ?_
            refine va_sld hx hb hX hbl hbA hS (i := 4) (by unfold vp_in; decide) dL_law_312 ?_
            refine lv_if_eq (tgt := 320) hx hb dL_law_313 (by decide) (fun c_33 => ?_) (fun c_33 => ?_)
            · refine lv_iconst (v := 0) hx hb dL_law_320 (by decide) ?_
              refine lv_aload_n hx hb dL_law_321 rfl (lv_at hl 6 rfl) ?_
              refine lv_iload hx hb dL_law_322 (lv_at hl 1 rfl) ?_
              refine lv_iconst (v := 5) hx hb dL_law_324 (by decide) ?_
              refine lv_iadd hx hb dL_law_325 ?_
              refine W.eq (congrArg (fun z : Int32 => F0 m 326 ls (.int z :: [.ref b, .int 0, .int (xs (3 : Int32).toNatClampNeg), .int (((xs (2 : Int32).toNatClampNeg).toUInt32 % 65536).toInt32), .int (((xs (1 : Int32).toNatClampNeg).toUInt32 % 65536).toInt32), .ref w34])) (by decide : (0 + 5 : Int32) = 5)) ?_
              refine va_sld hx hb hX hbl hbA hS (i := 5) (by unfold vp_in; decide) dL_law_326 ?_
              refine lv_if_eq (tgt := 334) hx hb dL_law_327 (by decide) (fun c_34 => ?_) (fun c_34 => ?_)
              · exact absurd c_34 c_2
              · refine lv_iconst (v := 1) hx hb dL_law_330 (by decide) ?_
                refine lv_goto (tgt := 335) hx hb dL_law_331 (by decide) ?_
                refine lv_aload_n hx hb dL_law_335 rfl (lv_at hl 6 rfl) ?_
                refine lv_iload hx hb dL_law_336 (lv_at hl 1 rfl) ?_
                refine lv_bipush (v := 6) hx hb dL_law_338 (by decide) ?_
                refine lv_iadd hx hb dL_law_340 ?_
                refine W.eq (congrArg (fun z : Int32 => F0 m 341 ls (.int z :: [.ref b, .int 1, .int 0, .int (xs (3 : Int32).toNatClampNeg), .int (((xs (2 : Int32).toNatClampNeg).toUInt32 % 65536).toInt32), .int (((xs (1 : Int32).toNatClampNeg).toUInt32 % 65536).toInt32), .ref w34])) (by decide : (0 + 6 : Int32) = 6)) ?_
                refine va_sld hx hb hX hbl hbA hS (i := 6) (by unfold vp_in; decide) dL_law_341 ?_
                refine lv_if_eq (tgt := 349) hx hb dL_law_342 (by decide) (fun c_35 => ?_) (fun c_35 => ?_)
                · exact absurd c_35 c_22
                · refine lv_iconst (v := 1) hx hb dL_law_345 (by decide) ?_
                  refine lv_goto (tgt := 350) hx hb dL_law_346 (by decide) ?_
                  have hPc := hP.sub (ws' := [(w34, .inr (12, [.int 0, .ref w35, .ref w36, .ref w37, .int (-1), .int (-1), .int 0, .ref w38, .ref w39, .ref w40, .ref w41, .ref w42, .ref w43, .ref w44, .ref w45, .ref w46, .int 0, .int 0, .null, .int 0, .int 45, .ref w47, .ref w48, .ref w49, .ref w50, .ref w51])), (w35, .inr (14, [.int 0, .ref tE, .int 0])), (w36, .inr (14, [.int 0, .ref tE, .int 0]))]) [0, 1, 2] rfl
                  have hKc := hK.sub (tys' := []) [] rfl
                  have hDc := hD.sub (ws' := [(w34, .inr (12, [.int 0, .ref w35, .ref w36, .ref w37, .int (-1), .int (-1), .int 0, .ref w38, .ref w39, .ref w40, .ref w41, .ref w42, .ref w43, .ref w44, .ref w45, .ref w46, .int 0, .int 0, .null, .int 0, .int 45, .ref w47, .ref w48, .ref w49, .ref w50, .ref w51])), (w35, .inr (14, [.int 0, .ref tE, .int 0])), (w36, .inr (14, [.int 0, .ref tE, .int 0]))]) [0, 1, 2] (by decide) rfl
                  have hFc := va_free (wc := [(w34, .inr (12, [.int 0, .ref w35, .ref w36, .ref w37, .int (-1), .int (-1), .int 0, .ref w38, .ref w39, .ref w40, .ref w41, .ref w42, .ref w43, .ref w44, .ref w45, .ref w46, .int 0, .int 0, .null, .int 0, .int 45, .ref w47, .ref w48, .ref w49, .ref w50, .ref w51])), (w35, .inr (14, [.int 0, .ref tE, .int 0])), (w36, .inr (14, [.int 0, .ref tE, .int 0]))]) hD hS hA [0, 1, 2] rfl
                  refine va_calli (va_runV (As := [.int (((xs (1 : Int32).toNatClampNeg).toUInt32 % 65536).toInt32), .int (((xs (2 : Int32).toNatClampNeg).toUInt32 % 65536).toInt32), .int (xs (3 : Int32).toNatClampNeg), .int 0, .int 1, .int 1]) (rest := []) ⟨hx, hb, hml, hown, hq⟩ (c_M_role_ok l hst tE adK adV dC dI w34 w35 w36 w37 w38 w39 w40 w41 w42 w43 w44 w45 w46 w47 w48 w49 w50 w51 0 (((xs (1 : Int32).toNatClampNeg).toUInt32 % 65536).toInt32) (((xs (2 : Int32).toNatClampNeg).toUInt32 % 65536).toInt32) (xs (3 : Int32).toNatClampNeg) 0 1 1 hok (Or.inl rfl) (Or.inr rfl) (Or.inr rfl) H.size) (tcV 6 hq q_1386 q_12 q_1383 q_1384 q_1385 rfl rfl (by decide +kernel) ⟨Nat.le_of_ble_eq_true rfl, Nat.le_of_ble_eq_true rfl⟩) (pre.V (va_recv hK hP (ci := 12) (q0 := 0) rfl rfl) (pre.of hPc hDc hKc ham hS hFc)) rfl rfl hl.1 rfl (lv_room (Nat.le_of_ble_eq_true rfl)) dL_law_350 ⟨Nat.le_of_ble_eq_true rfl, Nat.le_of_ble_eq_true rfl⟩) hS (fun q _ h => hFc q h) hFc (fun r_36 u t H1 locs ht hvm hw hB hz1 hk1 hS => ?_)
                  obtain ⟨hP1, hK1, hD1⟩ := hB
                  rw [ht] at hP1
                  have hK1 := va_K.moved hvm.symm hK1
                  obtain ⟨hP, hD⟩ := va_join (wr := [(w54, .inl (w55, 1, .inr (.inr (.inr (.inl (fun _ => 0)))))), (w52, .inl (w53, 1, .inr (.inl (vp_updL (fun _ => 0) (0 : Int32).toNatClampNeg 0))))]) (w1 := [(w34, .inr (12, [.int 0, .ref w35, .ref w36, .ref w37, .int (-1), .int (-1), .int 0, .ref w38, .ref w39, .ref w40, .ref w41, .ref w42, .ref w43, .ref w44, .ref w45, .ref w46, .int 0, .int 0, .null, .int 0, .int 45, .ref w47, .ref w48, .ref w49, .ref w50, .ref w51]))]) (wc := [(w34, .inr (12, [.int 0, .ref w35, .ref w36, .ref w37, .int (-1), .int (-1), .int 0, .ref w38, .ref w39, .ref w40, .ref w41, .ref w42, .ref w43, .ref w44, .ref w45, .ref w46, .int 0, .int 0, .null, .int 0, .int 45, .ref w47, .ref w48, .ref w49, .ref w50, .ref w51])), (w35, .inr (14, [.int 0, .ref tE, .int 0])), (w36, .inr (14, [.int 0, .ref tE, .int 0]))]) hP hD [0, 1, 2] [3, 4] rfl rfl (by decide) (by decide) hk1 hFc hP1 hD1
                  have hK := (hK.sub (tys' := [(w16, .char), (w17, .char), (w18, .int), (w19, .boolean), (w20, .boolean), (w21, .boolean), (w22, .int), (w53, .long), (w55, .double), (w53, .long)]) [0, 1, 2, 3, 4, 5, 6, 7, 8, 9] rfl).app hK1
                  generalize H1 = H at hP hS ⊢
                  have hP : va_P (dC, dI) cls [(w54, .inl (w55, 1, .inr (.inr (.inr (.inl (fun _ => 0)))))), (w52, .inl (w53, 1, .inr (.inl (vp_updL (fun _ => 0) (0 : Int32).toNatClampNeg 0)))), (w34, .inr (12, [.int 0, .ref w35, .ref w36, .ref w37, .int (-1), .int (-1), .int 0, .ref w38, .ref w39, .ref w40, .ref w41, .ref w42, .ref w43, .ref w44, .ref w45, .ref w46, .int 0, .int 0, .null, .int 0, .int 45, .ref w47, .ref w48, .ref w49, .ref w50, .ref w51]))] H := hP
                  have hD : va_D A [(w54, .inl (w55, 1, .inr (.inr (.inr (.inl (fun _ => 0)))))), (w52, .inl (w53, 1, .inr (.inl (vp_updL (fun _ => 0) (0 : Int32).toNatClampNeg 0)))), (w34, .inr (12, [.int 0, .ref w35, .ref w36, .ref w37, .int (-1), .int (-1), .int 0, .ref w38, .ref w39, .ref w40, .ref w41, .ref w42, .ref w43, .ref w44, .ref w45, .ref w46, .int 0, .int 0, .null, .int 0, .int 45, .ref w47, .ref w48, .ref w49, .ref w50, .ref w51]))] := hD
                  have hK : va_K (dC, dI) cls [(w16, .char), (w17, .char), (w18, .int), (w19, .boolean), (w20, .boolean), (w21, .boolean), (w22, .int), (w53, .long), (w55, .double), (w53, .long)] s := hK
                  refine W.widen (k := 93) (n := 4919) (Nat.le_of_ble_eq_true rfl) (Nat.le_of_ble_eq_true rfl) ?_
                  have hw : r_36 = 0 := hw
                  subst hw
                  refine lv_istore (lv' := [(7, .int 0), (6, .int 0), (5, .int 0), (4, .ref w54), (3, .ref w52), (2, .ref w34), (1, .ref w0), (0, .ref b)]) hx hb dL_law_353 hl (by decide) rfl (fun ls hl => ?_)
                  refine lv_aload_n hx hb dL_law_355 rfl (lv_at hl 5 rfl) ?_
                  have hPc := hP.sub (ws' := [(w34, .inr (12, [.int 0, .ref w35, .ref w36, .ref w37, .int (-1), .int (-1), .int 0, .ref w38, .ref w39, .ref w40, .ref w41, .ref w42, .ref w43, .ref w44, .ref w45, .ref w46, .int 0, .int 0, .null, .int 0, .int 45, .ref w47, .ref w48, .ref w49, .ref w50, .ref w51]))]) [2] rfl
                  have hKc := hK.sub (tys' := []) [] rfl
                  refine va_calli (va_runV (As := []) (rest := []) ⟨hx, hb, hml, hown, hq⟩ (c_thrown l hst tE adK adV dC dI w34 w35 w36 w37 w38 w39 w40 w41 w42 w43 w44 w45 w46 w47 w48 w49 w50 w51 0 H.size) (tcV 0 hq q_1264 q_12 q_1261 q_1262 q_1263 rfl rfl (by decide +kernel) ⟨Nat.le_of_ble_eq_true rfl, Nat.le_of_ble_eq_true rfl⟩) (preR.V (va_recv hK hP (ci := 12) (q0 := 2) rfl rfl) (preR.of hPc hKc ham hS hA)) rfl rfl hl.1 rfl (lv_room (Nat.le_of_ble_eq_true rfl)) dL_law_356 ⟨Nat.le_of_ble_eq_true rfl, Nat.le_of_ble_eq_true rfl⟩) hS (fun q _ h => hA q (Nat.le_trans hS.1 h)) (fun q h => hA q (Nat.le_trans hS.1 h)) (fun r_37 u t H1 locs ht hvm hw hB hz1 hk1 hS => ?_)
                  have hP : va_P (dC, dI) cls [(w54, .inl (w55, 1, .inr (.inr (.inr (.inl (fun _ => 0)))))), (w52, .inl (w53, 1, .inr (.inl (vp_updL (fun _ => 0) (0 : Int32).toNatClampNeg 0)))), (w34, .inr (12, [.int 0, .ref w35, .ref w36, .ref w37, .int (-1), .int (-1), .int 0, .ref w38, .ref w39, .ref w40, .ref w41, .ref w42, .ref w43, .ref w44, .ref w45, .ref w46, .int 0, .int 0, .null, .int 0, .int 45, .ref w47, .ref w48, .ref w49, .ref w50, .ref w51]))] H1 := ro_keep hP hk1
                  generalize H1 = H at hP hS ⊢
                  refine W.widen (k := 93) (n := 4919) (Nat.le_of_ble_eq_true rfl) (Nat.le_of_ble_eq_true rfl) ?_
                  have hw : r_37 = 0 := hw
                  subst hw
                  refine lv_iload hx hb dL_law_359 (lv_at hl 1 rfl) ?_
                  refine lv_icmp_eq (tgt := 366) hx hb dL_law_361 (by decide) (fun c_38 => ?_) (fun c_38 => ?_)
                  · refine lv_iload hx hb dL_law_366 (lv_at hl 1 rfl) ?_
                    refine lv_if_ne (tgt := 383) hx hb dL_law_368 (by decide) (fun c_39 => ?_) (fun c_39 => ?_)
                    · exact absurd c_39 (by decide)
                    · refine lv_aload_n hx hb dL_law_371 rfl (lv_at hl 4 rfl) ?_
                      refine lv_iconst (v := 0) hx hb dL_law_372 (by decide) ?_
                      refine va_lald hx hb hK hP 1 7 rfl rfl (by unfold vp_in; decide) dL_law_373 ?_
                      refine W.eq (congrArg (fun z : Int64 => F0 m 374 ls (.long z :: [])) pk_uLs) ?_
                      refine lv_iload hx hb dL_law_374 (lv_at hl 0 rfl) ?_
                      refine lv_i2l (v := 0) hx hb dL_law_376 (by decide) ?_
                      refine W.lcmp hx hb dL_law_377 ?_
                      refine W.eq (congrArg (fun z : Int32 => F0 m 378 ls (.int z :: [])) (by decide : lg_cmp 0 0 = 0)) ?_
                      refine lv_if_eq (tgt := 383) hx hb dL_law_378 (by decide) (fun c_40 => ?_) (fun c_40 => ?_)
                      · refine lv_goto (tgt := 2585) hx hb dL_law_383 (by decide) ?_
                        refine W.widen (k := 600002) (n := 7302232) (Nat.le_of_ble_eq_true rfl) (Nat.le_of_ble_eq_true rfl) ?_
                        exact law_end C0 hA hA2 hS (lv_sub hl [7, 2] rfl)
                      · exact absurd c_40 (by decide)
                  · exact absurd c_38 (by decide)
            · exact absurd c_1 c_33
    · refine lv_iconst (v := 1) hx hb dL_law_246 (by decide) ?_
      refine lv_goto (tgt := 251) hx hb dL_law_247 (by decide) ?_
      refine lv_aload_n hx hb dL_law_251 rfl (lv_at hl 5 rfl) ?_
      refine lv_iload hx hb dL_law_252 (lv_at hl 0 rfl) ?_
      refine lv_iconst (v := 5) hx hb dL_law_254 (by decide) ?_
      refine lv_iadd hx hb dL_law_255 ?_
      refine W.eq (congrArg (fun z : Int32 => F0 m 256 ls (.int z :: [.ref b, .int 1, .int (xs (3 : Int32).toNatClampNeg), .int (((xs (2 : Int32).toNatClampNeg).toUInt32 % 65536).toInt32), .int (((xs (1 : Int32).toNatClampNeg).toUInt32 % 65536).toInt32), .ref w0])) (by decide : (0 + 5 : Int32) = 5)) ?_
      refine va_sld hx hb hX hbl hbA hS (i := 5) (by unfold vp_in; decide) dL_law_256 ?_
      refine lv_if_eq (tgt := 264) hx hb dL_law_257 (by decide) (fun c_41 => ?_) (fun c_41 => ?_)
      · refine lv_iconst (v := 0) hx hb dL_law_264 (by decide) ?_
        refine lv_aload_n hx hb dL_law_265 rfl (lv_at hl 5 rfl) ?_
        refine lv_iload hx hb dL_law_266 (lv_at hl 0 rfl) ?_
        refine lv_bipush (v := 6) hx hb dL_law_268 (by decide) ?_
        refine lv_iadd hx hb dL_law_270 ?_
        refine W.eq (congrArg (fun z : Int32 => F0 m 271 ls (.int z :: [.ref b, .int 0, .int 1, .int (xs (3 : Int32).toNatClampNeg), .int (((xs (2 : Int32).toNatClampNeg).toUInt32 % 65536).toInt32), .int (((xs (1 : Int32).toNatClampNeg).toUInt32 % 65536).toInt32), .ref w0])) (by decide : (0 + 6 : Int32) = 6)) ?_
        refine va_sld hx hb hX hbl hbA hS (i := 6) (by unfold vp_in; decide) dL_law_271 ?_
        refine lv_if_eq (tgt := 279) hx hb dL_law_272 (by decide) (fun c_42 => ?_) (fun c_42 => ?_)
        · refine lv_iconst (v := 0) hx hb dL_law_279 (by decide) ?_
          refine lv_aload_n hx hb dL_law_280 rfl (lv_at hl 2 rfl) ?_
          have hPc := hP.sub (ws' := [(w0, .inr (10, [.ref w1, .ref w2, .ref w3, .ref w4, .ref w5, .ref w6, .ref w7, .ref w8])), (w1, .inr (7, [.ref w9, .ref w10, .ref w11, .ref w12, .ref w13, .ref w14, .ref w15, .int 0])), (w9, .inl (w16, 8, .inl (fun _ => 0))), (w10, .inl (w17, 8, .inl (fun _ => 0))), (w11, .inl (w18, 8, .inl (fun _ => 0))), (w12, .inl (w19, 8, .inl (fun _ => 0))), (w13, .inl (w20, 8, .inl (fun _ => 0))), (w14, .inl (w21, 8, .inl (fun _ => 0))), (w15, .inl (w22, 8, .inl (fun _ => 0))), (w2, .inr (2, [.ref w23, .ref w24, .ref w25, .int 0, .int (-1), .int (-1)])), (w3, .inr (4, [.ref w26, .ref w27, .ref w28, .int 0, .int 0, .int 0, .int 45])), (w26, .inr (3, [.ref w1, .ref w2, .ref w29, .ref w30, .ref w31, .ref w32, .ref w33, .int 0, .int 0])), (w52, .inl (w53, 1, .inr (.inl (fun _ => 0))))]) [0, 1, 2, 3, 4, 5, 6, 7, 8, 9, 10, 11, 15] rfl
          have hKc := hK.sub (tys' := [(w16, .char), (w17, .char), (w18, .int), (w19, .boolean), (w20, .boolean), (w21, .boolean), (w22, .int), (w53, .long)]) [0, 1, 2, 3, 4, 5, 6, 7] rfl
          have hDc := hD.sub (ws' := [(w0, .inr (10, [.ref w1, .ref w2, .ref w3, .ref w4, .ref w5, .ref w6, .ref w7, .ref w8])), (w1, .inr (7, [.ref w9, .ref w10, .ref w11, .ref w12, .ref w13, .ref w14, .ref w15, .int 0])), (w9, .inl (w16, 8, .inl (fun _ => 0))), (w10, .inl (w17, 8, .inl (fun _ => 0))), (w11, .inl (w18, 8, .inl (fun _ => 0))), (w12, .inl (w19, 8, .inl (fun _ => 0))), (w13, .inl (w20, 8, .inl (fun _ => 0))), (w14, .inl (w21, 8, .inl (fun _ => 0))), (w15, .inl (w22, 8, .inl (fun _ => 0))), (w2, .inr (2, [.ref w23, .ref w24, .ref w25, .int 0, .int (-1), .int (-1)])), (w3, .inr (4, [.ref w26, .ref w27, .ref w28, .int 0, .int 0, .int 0, .int 45])), (w26, .inr (3, [.ref w1, .ref w2, .ref w29, .ref w30, .ref w31, .ref w32, .ref w33, .int 0, .int 0])), (w52, .inl (w53, 1, .inr (.inl (fun _ => 0))))]) [0, 1, 2, 3, 4, 5, 6, 7, 8, 9, 10, 11, 15] (by decide) rfl
          have hFc := va_free (wc := [(w0, .inr (10, [.ref w1, .ref w2, .ref w3, .ref w4, .ref w5, .ref w6, .ref w7, .ref w8])), (w1, .inr (7, [.ref w9, .ref w10, .ref w11, .ref w12, .ref w13, .ref w14, .ref w15, .int 0])), (w9, .inl (w16, 8, .inl (fun _ => 0))), (w10, .inl (w17, 8, .inl (fun _ => 0))), (w11, .inl (w18, 8, .inl (fun _ => 0))), (w12, .inl (w19, 8, .inl (fun _ => 0))), (w13, .inl (w20, 8, .inl (fun _ => 0))), (w14, .inl (w21, 8, .inl (fun _ => 0))), (w15, .inl (w22, 8, .inl (fun _ => 0))), (w2, .inr (2, [.ref w23, .ref w24, .ref w25, .int 0, .int (-1), .int (-1)])), (w3, .inr (4, [.ref w26, .ref w27, .ref w28, .int 0, .int 0, .int 0, .int 45])), (w26, .inr (3, [.ref w1, .ref w2, .ref w29, .ref w30, .ref w31, .ref w32, .ref w33, .int 0, .int 0])), (w52, .inl (w53, 1, .inr (.inl (fun _ => 0))))]) hD hS hA [0, 1, 2, 3, 4, 5, 6, 7, 8, 9, 10, 11, 15] rfl
          refine vx_calli (vx_runSX (As := [.ref w0, .int (((xs (1 : Int32).toNatClampNeg).toUInt32 % 65536).toInt32), .int (((xs (2 : Int32).toNatClampNeg).toUInt32 % 65536).toInt32), .int (xs (3 : Int32).toNatClampNeg), .int 1, .int 0, .int 0, .ref w52]) (rest := []) ⟨hx, hb, hml, hown, hq⟩ (c_L_role_ok l hst tE adK adV dC dI w0 w1 w2 w3 w4 w5 w6 w7 w8 w9 w10 w11 w12 w13 w14 w15 w16 w17 w18 w19 w20 w21 w22 w23 w24 w25 w26 w27 w28 w29 w30 w31 w32 w33 w52 w53 (fun _ => 0) (((xs (1 : Int32).toNatClampNeg).toUInt32 % 65536).toInt32) (((xs (2 : Int32).toNatClampNeg).toUInt32 % 65536).toInt32) (xs (3 : Int32).toNatClampNeg) 1 0 0 hok H.size) (tcSW 8 hq q_682 q_0 q_680 q_681 rfl rfl (by decide +kernel) ⟨Nat.le_of_ble_eq_true rfl, Nat.le_of_ble_eq_true rfl⟩) (pre.S (pre.of hPc hDc hKc ham hS hFc)) rfl rfl hl.1 rfl (lv_room (Nat.le_of_ble_eq_true rfl)) dL_law_281 ⟨Nat.le_of_ble_eq_true rfl, Nat.le_of_ble_eq_true rfl⟩) hS (fun q _ h => hFc q h) hFc (fun q _ h => hFc q h) (fun E ce q9 u t H1 locs ht hvm hpx hB hz1 hk1 hS hce hcv hcl => ?_) (fun r_43 u t H1 locs ht hvm hw hB hz1 hk1 hS => ?_)
          · exact (hB : False).elim
          · obtain ⟨hP1, hK1, hD1⟩ := hB
            rw [ht] at hP1
            have hK1 := va_K.moved hvm.symm hK1
            obtain ⟨hP, hD⟩ := va_join (wr := [(w34, .inr (12, [.int 0, .ref w35, .ref w36, .ref w37, .int (-1), .int (-1), .int 0, .ref w38, .ref w39, .ref w40, .ref w41, .ref w42, .ref w43, .ref w44, .ref w45, .ref w46, .int 0, .int 0, .null, .int 0, .int 45, .ref w47, .ref w48, .ref w49, .ref w50, .ref w51])), (w35, .inr (14, [.int 0, .ref tE, .int 0])), (w36, .inr (14, [.int 0, .ref tE, .int 0])), (w54, .inl (w55, 1, .inr (.inr (.inr (.inl (fun _ => 0))))))]) (w1 := [(w52, .inl (w53, 1, .inr (.inl (vp_updL (fun _ => 0) (0 : Int32).toNatClampNeg 0))))]) (wc := [(w0, .inr (10, [.ref w1, .ref w2, .ref w3, .ref w4, .ref w5, .ref w6, .ref w7, .ref w8])), (w1, .inr (7, [.ref w9, .ref w10, .ref w11, .ref w12, .ref w13, .ref w14, .ref w15, .int 0])), (w9, .inl (w16, 8, .inl (fun _ => 0))), (w10, .inl (w17, 8, .inl (fun _ => 0))), (w11, .inl (w18, 8, .inl (fun _ => 0))), (w12, .inl (w19, 8, .inl (fun _ => 0))), (w13, .inl (w20, 8, .inl (fun _ => 0))), (w14, .inl (w21, 8, .inl (fun _ => 0))), (w15, .inl (w22, 8, .inl (fun _ => 0))), (w2, .inr (2, [.ref w23, .ref w24, .ref w25, .int 0, .int (-1), .int (-1)])), (w3, .inr (4, [.ref w26, .ref w27, .ref w28, .int 0, .int 0, .int 0, .int 45])), (w26, .inr (3, [.ref w1, .ref w2, .ref w29, .ref w30, .ref w31, .ref w32, .ref w33, .int 0, .int 0])), (w52, .inl (w53, 1, .inr (.inl (fun _ => 0))))]) hP hD [0, 1, 2, 3, 4, 5, 6, 7, 8, 9, 10, 11, 15] [12, 13, 14, 16] rfl rfl (by decide) (by decide) hk1 hFc hP1 hD1
            have hK := (hK.sub (tys' := [(w16, .char), (w17, .char), (w18, .int), (w19, .boolean), (w20, .boolean), (w21, .boolean), (w22, .int), (w53, .long), (w55, .double)]) [0, 1, 2, 3, 4, 5, 6, 7, 8] rfl).app hK1
            generalize H1 = H at hP hS ⊢
            have hP : va_P (dC, dI) cls [(w34, .inr (12, [.int 0, .ref w35, .ref w36, .ref w37, .int (-1), .int (-1), .int 0, .ref w38, .ref w39, .ref w40, .ref w41, .ref w42, .ref w43, .ref w44, .ref w45, .ref w46, .int 0, .int 0, .null, .int 0, .int 45, .ref w47, .ref w48, .ref w49, .ref w50, .ref w51])), (w35, .inr (14, [.int 0, .ref tE, .int 0])), (w36, .inr (14, [.int 0, .ref tE, .int 0])), (w54, .inl (w55, 1, .inr (.inr (.inr (.inl (fun _ => 0)))))), (w52, .inl (w53, 1, .inr (.inl (vp_updL (fun _ => 0) (0 : Int32).toNatClampNeg 0))))] H := hP
            have hD : va_D A [(w34, .inr (12, [.int 0, .ref w35, .ref w36, .ref w37, .int (-1), .int (-1), .int 0, .ref w38, .ref w39, .ref w40, .ref w41, .ref w42, .ref w43, .ref w44, .ref w45, .ref w46, .int 0, .int 0, .null, .int 0, .int 45, .ref w47, .ref w48, .ref w49, .ref w50, .ref w51])), (w35, .inr (14, [.int 0, .ref tE, .int 0])), (w36, .inr (14, [.int 0, .ref tE, .int 0])), (w54, .inl (w55, 1, .inr (.inr (.inr (.inl (fun _ => 0)))))), (w52, .inl (w53, 1, .inr (.inl (vp_updL (fun _ => 0) (0 : Int32).toNatClampNeg 0))))] := hD
            have hK : va_K (dC, dI) cls [(w16, .char), (w17, .char), (w18, .int), (w19, .boolean), (w20, .boolean), (w21, .boolean), (w22, .int), (w53, .long), (w55, .double), (w53, .long)] s := hK
            refine W.widen (k := 91) (n := 4902) (Nat.le_of_ble_eq_true rfl) (Nat.le_of_ble_eq_true rfl) ?_
            have hw : r_43 = 0 := hw
            subst hw
            refine lv_istore (lv' := [(6, .int 0), (5, .int 0), (4, .ref w54), (3, .ref w52), (2, .ref w34), (1, .ref w0), (0, .ref b)]) hx hb dL_law_284 hl (by decide) rfl (fun ls hl => ?_)
            refine lv_aload_n hx hb dL_law_286 rfl (lv_at hl 4 rfl) ?_
            refine lv_aload_n hx hb dL_law_287 rfl (lv_at hl 6 rfl) ?_
            refine lv_iload hx hb dL_law_288 (lv_at hl 1 rfl) ?_
            refine lv_iconst (v := 1) hx hb dL_law_290 (by decide) ?_
            refine lv_iadd hx hb dL_law_291 ?_
            refine W.eq (congrArg (fun z : Int32 => F0 m 292 ls (.int z :: [.ref b, .ref w34])) (by decide : (0 + 1 : Int32) = 1)) ?_
            refine va_sld hx hb hX hbl hbA hS (i := 1) (by unfold vp_in; decide) dL_law_292 ?_
            refine lv_i2c (v := ((xs (1 : Int32).toNatClampNeg).toUInt32 % 65536).toInt32) hx hb dL_law_293 rfl ?_
            refine lv_aload_n hx hb dL_law_294 rfl (lv_at hl 6 rfl) ?_
            refine lv_iload hx hb dL_law_295 (lv_at hl 1 rfl) ?_
            refine lv_iconst (v := 2) hx hb dL_law_297 (by decide) ?_
            refine lv_iadd hx hb dL_law_298 ?_
            refine W.eq (congrArg (fun z : Int32 => F0 m 299 ls (.int z :: [.ref b, .int (((xs (1 : Int32).toNatClampNeg).toUInt32 % 65536).toInt32), .ref w34])) (by decide : (0 + 2 : Int32) = 2)) ?_
            refine va_sld hx hb hX hbl hbA hS (i := 2) (by unfold vp_in; decide) dL_law_299 ?_
            refine lv_i2c (v := ((xs (2 : Int32).toNatClampNeg).toUInt32 % 65536).toInt32) hx hb dL_law_300 rfl ?_
            refine lv_aload_n hx hb dL_law_301 rfl (lv_at hl 6 rfl) ?_
            refine lv_iload hx hb dL_law_302 (lv_at hl 1 rfl) ?_
            refine lv_iconst (v := 3) hx hb dL_law_304 (by decide) ?_
            refine lv_iadd hx hb dL_law_305 ?_
            refine W.eq (congrArg (fun z : Int32 => F0 m 306 ls (.int z :: [.ref b, .int (((xs (2 : Int32).toNatClampNeg).toUInt32 % 65536).toInt32), .int (((xs (1 : Int32).toNatClampNeg).toUInt32 % 65536).toInt32), .ref w34])) (by decide : (0 + 3 : Int32) = 3)) ?_
            refine va_sld hx hb hX hbl hbA hS (i := 3) (by unfold vp_in; decide) dL_law_306 ?_
            refine lv_aload_n hx hb dL_law_307 rfl (lv_at hl 6 rfl) ?_
            refine lv_iload hx hb dL_law_308 (lv_at hl 1 rfl) ?_
            refine lv_iconst (v := 4) hx hb dL_law_310 (by decide) ?_
            refine lv_iadd hx hb dL_law_311 ?_
            refine W.eq (congrArg (fun z : Int32 => F0 m 312 ls (.int z :: [.ref b, .int (xs (3 : Int32).toNatClampNeg), .int (((xs (2 : Int32).toNatClampNeg).toUInt32 % 65536).toInt32), .int (((xs (1 : Int32).toNatClampNeg).toUInt32 % 65536).toInt32), .ref w34])) (by decide : (0 + 4 : Int32) = 4)) ?_
            refine va_sld hx hb hX hbl hbA hS (i := 4) (by unfold vp_in; decide) dL_law_312 ?_
            refine lv_if_eq (tgt := 320) hx hb dL_law_313 (by decide) (fun c_44 => ?_) (fun c_44 => ?_)
            · exact absurd c_44 c_1
            · refine lv_iconst (v := 1) hx hb dL_law_316 (by decide) ?_
              refine lv_goto (tgt := 321) hx hb dL_law_317 (by decide) ?_
              refine lv_aload_n hx hb dL_law_321 rfl (lv_at hl 6 rfl) ?_
              refine lv_iload hx hb dL_law_322 (lv_at hl 1 rfl) ?_
              refine lv_iconst (v := 5) hx hb dL_law_324 (by decide) ?_
              refine lv_iadd hx hb dL_law_325 ?_
              refine W.eq (congrArg (fun z : Int32 => F0 m 326 ls (.int z :: [.ref b, .int 1, .int (xs (3 : Int32).toNatClampNeg), .int (((xs (2 : Int32).toNatClampNeg).toUInt32 % 65536).toInt32), .int (((xs (1 : Int32).toNatClampNeg).toUInt32 % 65536).toInt32), .ref w34])) (by decide : (0 + 5 : Int32) = 5)) ?_
              refine va_sld hx hb hX hbl hbA hS (i := 5) (by unfold vp_in; decide) dL_law_326 ?_
              refine lv_if_eq (tgt := 334) hx hb dL_law_327 (by decide) (fun c_45 => ?_) (fun c_45 => ?_)
              · refine lv_iconst (v := 0) hx hb dL_law_334 (by decide) ?_
                refine lv_aload_n hx hb dL_law_335 rfl (lv_at hl 6 rfl) ?_
                refine lv_iload hx hb dL_law_336 (lv_at hl 1 rfl) ?_
                refine lv_bipush (v := 6) hx hb dL_law_338 (by decide) ?_
                refine lv_iadd hx hb dL_law_340 ?_
                refine W.eq (congrArg (fun z : Int32 => F0 m 341 ls (.int z :: [.ref b, .int 0, .int 1, .int (xs (3 : Int32).toNatClampNeg), .int (((xs (2 : Int32).toNatClampNeg).toUInt32 % 65536).toInt32), .int (((xs (1 : Int32).toNatClampNeg).toUInt32 % 65536).toInt32), .ref w34])) (by decide : (0 + 6 : Int32) = 6)) ?_
                refine va_sld hx hb hX hbl hbA hS (i := 6) (by unfold vp_in; decide) dL_law_341 ?_
                refine lv_if_eq (tgt := 349) hx hb dL_law_342 (by decide) (fun c_46 => ?_) (fun c_46 => ?_)
                · refine lv_iconst (v := 0) hx hb dL_law_349 (by decide) ?_
                  have hPc := hP.sub (ws' := [(w34, .inr (12, [.int 0, .ref w35, .ref w36, .ref w37, .int (-1), .int (-1), .int 0, .ref w38, .ref w39, .ref w40, .ref w41, .ref w42, .ref w43, .ref w44, .ref w45, .ref w46, .int 0, .int 0, .null, .int 0, .int 45, .ref w47, .ref w48, .ref w49, .ref w50, .ref w51])), (w35, .inr (14, [.int 0, .ref tE, .int 0])), (w36, .inr (14, [.int 0, .ref tE, .int 0]))]) [0, 1, 2] rfl
                  have hKc := hK.sub (tys' := []) [] rfl
                  have hDc := hD.sub (ws' := [(w34, .inr (12, [.int 0, .ref w35, .ref w36, .ref w37, .int (-1), .int (-1), .int 0, .ref w38, .ref w39, .ref w40, .ref w41, .ref w42, .ref w43, .ref w44, .ref w45, .ref w46, .int 0, .int 0, .null, .int 0, .int 45, .ref w47, .ref w48, .ref w49, .ref w50, .ref w51])), (w35, .inr (14, [.int 0, .ref tE, .int 0])), (w36, .inr (14, [.int 0, .ref tE, .int 0]))]) [0, 1, 2] (by decide) rfl
                  have hFc := va_free (wc := [(w34, .inr (12, [.int 0, .ref w35, .ref w36, .ref w37, .int (-1), .int (-1), .int 0, .ref w38, .ref w39, .ref w40, .ref w41, .ref w42, .ref w43, .ref w44, .ref w45, .ref w46, .int 0, .int 0, .null, .int 0, .int 45, .ref w47, .ref w48, .ref w49, .ref w50, .ref w51])), (w35, .inr (14, [.int 0, .ref tE, .int 0])), (w36, .inr (14, [.int 0, .ref tE, .int 0]))]) hD hS hA [0, 1, 2] rfl
                  refine va_calli (va_runV (As := [.int (((xs (1 : Int32).toNatClampNeg).toUInt32 % 65536).toInt32), .int (((xs (2 : Int32).toNatClampNeg).toUInt32 % 65536).toInt32), .int (xs (3 : Int32).toNatClampNeg), .int 1, .int 0, .int 0]) (rest := []) ⟨hx, hb, hml, hown, hq⟩ (c_M_role_ok l hst tE adK adV dC dI w34 w35 w36 w37 w38 w39 w40 w41 w42 w43 w44 w45 w46 w47 w48 w49 w50 w51 0 (((xs (1 : Int32).toNatClampNeg).toUInt32 % 65536).toInt32) (((xs (2 : Int32).toNatClampNeg).toUInt32 % 65536).toInt32) (xs (3 : Int32).toNatClampNeg) 1 0 0 hok (Or.inr rfl) (Or.inl rfl) (Or.inl rfl) H.size) (tcV 6 hq q_1386 q_12 q_1383 q_1384 q_1385 rfl rfl (by decide +kernel) ⟨Nat.le_of_ble_eq_true rfl, Nat.le_of_ble_eq_true rfl⟩) (pre.V (va_recv hK hP (ci := 12) (q0 := 0) rfl rfl) (pre.of hPc hDc hKc ham hS hFc)) rfl rfl hl.1 rfl (lv_room (Nat.le_of_ble_eq_true rfl)) dL_law_350 ⟨Nat.le_of_ble_eq_true rfl, Nat.le_of_ble_eq_true rfl⟩) hS (fun q _ h => hFc q h) hFc (fun r_47 u t H1 locs ht hvm hw hB hz1 hk1 hS => ?_)
                  obtain ⟨hP1, hK1, hD1⟩ := hB
                  rw [ht] at hP1
                  have hK1 := va_K.moved hvm.symm hK1
                  obtain ⟨hP, hD⟩ := va_join (wr := [(w54, .inl (w55, 1, .inr (.inr (.inr (.inl (fun _ => 0)))))), (w52, .inl (w53, 1, .inr (.inl (vp_updL (fun _ => 0) (0 : Int32).toNatClampNeg 0))))]) (w1 := [(w34, .inr (12, [.int 0, .ref w35, .ref w36, .ref w37, .int (-1), .int (-1), .int 0, .ref w38, .ref w39, .ref w40, .ref w41, .ref w42, .ref w43, .ref w44, .ref w45, .ref w46, .int 0, .int 0, .null, .int 0, .int 45, .ref w47, .ref w48, .ref w49, .ref w50, .ref w51]))]) (wc := [(w34, .inr (12, [.int 0, .ref w35, .ref w36, .ref w37, .int (-1), .int (-1), .int 0, .ref w38, .ref w39, .ref w40, .ref w41, .ref w42, .ref w43, .ref w44, .ref w45, .ref w46, .int 0, .int 0, .null, .int 0, .int 45, .ref w47, .ref w48, .ref w49, .ref w50, .ref w51])), (w35, .inr (14, [.int 0, .ref tE, .int 0])), (w36, .inr (14, [.int 0, .ref tE, .int 0]))]) hP hD [0, 1, 2] [3, 4] rfl rfl (by decide) (by decide) hk1 hFc hP1 hD1
                  have hK := (hK.sub (tys' := [(w16, .char), (w17, .char), (w18, .int), (w19, .boolean), (w20, .boolean), (w21, .boolean), (w22, .int), (w53, .long), (w55, .double), (w53, .long)]) [0, 1, 2, 3, 4, 5, 6, 7, 8, 9] rfl).app hK1
                  generalize H1 = H at hP hS ⊢
                  have hP : va_P (dC, dI) cls [(w54, .inl (w55, 1, .inr (.inr (.inr (.inl (fun _ => 0)))))), (w52, .inl (w53, 1, .inr (.inl (vp_updL (fun _ => 0) (0 : Int32).toNatClampNeg 0)))), (w34, .inr (12, [.int 0, .ref w35, .ref w36, .ref w37, .int (-1), .int (-1), .int 0, .ref w38, .ref w39, .ref w40, .ref w41, .ref w42, .ref w43, .ref w44, .ref w45, .ref w46, .int 0, .int 0, .null, .int 0, .int 45, .ref w47, .ref w48, .ref w49, .ref w50, .ref w51]))] H := hP
                  have hD : va_D A [(w54, .inl (w55, 1, .inr (.inr (.inr (.inl (fun _ => 0)))))), (w52, .inl (w53, 1, .inr (.inl (vp_updL (fun _ => 0) (0 : Int32).toNatClampNeg 0)))), (w34, .inr (12, [.int 0, .ref w35, .ref w36, .ref w37, .int (-1), .int (-1), .int 0, .ref w38, .ref w39, .ref w40, .ref w41, .ref w42, .ref w43, .ref w44, .ref w45, .ref w46, .int 0, .int 0, .null, .int 0, .int 45, .ref w47, .ref w48, .ref w49, .ref w50, .ref w51]))] := hD
                  have hK : va_K (dC, dI) cls [(w16, .char), (w17, .char), (w18, .int), (w19, .boolean), (w20, .boolean), (w21, .boolean), (w22, .int), (w53, .long), (w55, .double), (w53, .long)] s := hK
                  refine W.widen (k := 93) (n := 4919) (Nat.le_of_ble_eq_true rfl) (Nat.le_of_ble_eq_true rfl) ?_
                  have hw : r_47 = 0 := hw
                  subst hw
                  refine lv_istore (lv' := [(7, .int 0), (6, .int 0), (5, .int 0), (4, .ref w54), (3, .ref w52), (2, .ref w34), (1, .ref w0), (0, .ref b)]) hx hb dL_law_353 hl (by decide) rfl (fun ls hl => ?_)
                  refine lv_aload_n hx hb dL_law_355 rfl (lv_at hl 5 rfl) ?_
                  have hPc := hP.sub (ws' := [(w34, .inr (12, [.int 0, .ref w35, .ref w36, .ref w37, .int (-1), .int (-1), .int 0, .ref w38, .ref w39, .ref w40, .ref w41, .ref w42, .ref w43, .ref w44, .ref w45, .ref w46, .int 0, .int 0, .null, .int 0, .int 45, .ref w47, .ref w48, .ref w49, .ref w50, .ref w51]))]) [2] rfl
                  have hKc := hK.sub (tys' := []) [] rfl
                  refine va_calli (va_runV (As := []) (rest := []) ⟨hx, hb, hml, hown, hq⟩ (c_thrown l hst tE adK adV dC dI w34 w35 w36 w37 w38 w39 w40 w41 w42 w43 w44 w45 w46 w47 w48 w49 w50 w51 0 H.size) (tcV 0 hq q_1264 q_12 q_1261 q_1262 q_1263 rfl rfl (by decide +kernel) ⟨Nat.le_of_ble_eq_true rfl, Nat.le_of_ble_eq_true rfl⟩) (preR.V (va_recv hK hP (ci := 12) (q0 := 2) rfl rfl) (preR.of hPc hKc ham hS hA)) rfl rfl hl.1 rfl (lv_room (Nat.le_of_ble_eq_true rfl)) dL_law_356 ⟨Nat.le_of_ble_eq_true rfl, Nat.le_of_ble_eq_true rfl⟩) hS (fun q _ h => hA q (Nat.le_trans hS.1 h)) (fun q h => hA q (Nat.le_trans hS.1 h)) (fun r_48 u t H1 locs ht hvm hw hB hz1 hk1 hS => ?_)
                  have hP : va_P (dC, dI) cls [(w54, .inl (w55, 1, .inr (.inr (.inr (.inl (fun _ => 0)))))), (w52, .inl (w53, 1, .inr (.inl (vp_updL (fun _ => 0) (0 : Int32).toNatClampNeg 0)))), (w34, .inr (12, [.int 0, .ref w35, .ref w36, .ref w37, .int (-1), .int (-1), .int 0, .ref w38, .ref w39, .ref w40, .ref w41, .ref w42, .ref w43, .ref w44, .ref w45, .ref w46, .int 0, .int 0, .null, .int 0, .int 45, .ref w47, .ref w48, .ref w49, .ref w50, .ref w51]))] H1 := ro_keep hP hk1
                  generalize H1 = H at hP hS ⊢
                  refine W.widen (k := 93) (n := 4919) (Nat.le_of_ble_eq_true rfl) (Nat.le_of_ble_eq_true rfl) ?_
                  have hw : r_48 = 0 := hw
                  subst hw
                  refine lv_iload hx hb dL_law_359 (lv_at hl 1 rfl) ?_
                  refine lv_icmp_eq (tgt := 366) hx hb dL_law_361 (by decide) (fun c_49 => ?_) (fun c_49 => ?_)
                  · refine lv_iload hx hb dL_law_366 (lv_at hl 1 rfl) ?_
                    refine lv_if_ne (tgt := 383) hx hb dL_law_368 (by decide) (fun c_50 => ?_) (fun c_50 => ?_)
                    · exact absurd c_50 (by decide)
                    · refine lv_aload_n hx hb dL_law_371 rfl (lv_at hl 4 rfl) ?_
                      refine lv_iconst (v := 0) hx hb dL_law_372 (by decide) ?_
                      refine va_lald hx hb hK hP 1 7 rfl rfl (by unfold vp_in; decide) dL_law_373 ?_
                      refine W.eq (congrArg (fun z : Int64 => F0 m 374 ls (.long z :: [])) pk_uLs) ?_
                      refine lv_iload hx hb dL_law_374 (lv_at hl 0 rfl) ?_
                      refine lv_i2l (v := 0) hx hb dL_law_376 (by decide) ?_
                      refine W.lcmp hx hb dL_law_377 ?_
                      refine W.eq (congrArg (fun z : Int32 => F0 m 378 ls (.int z :: [])) (by decide : lg_cmp 0 0 = 0)) ?_
                      refine lv_if_eq (tgt := 383) hx hb dL_law_378 (by decide) (fun c_51 => ?_) (fun c_51 => ?_)
                      · refine lv_goto (tgt := 2585) hx hb dL_law_383 (by decide) ?_
                        refine W.widen (k := 600002) (n := 7302232) (Nat.le_of_ble_eq_true rfl) (Nat.le_of_ble_eq_true rfl) ?_
                        exact law_end C0 hA hA2 hS (lv_sub hl [7, 2] rfl)
                      · exact absurd c_51 (by decide)
                  · exact absurd c_49 (by decide)
                · exact absurd c_42 c_46
              · exact absurd c_41 c_45
        · refine lv_iconst (v := 1) hx hb dL_law_275 (by decide) ?_
          refine lv_goto (tgt := 280) hx hb dL_law_276 (by decide) ?_
          refine lv_aload_n hx hb dL_law_280 rfl (lv_at hl 2 rfl) ?_
          have hPc := hP.sub (ws' := [(w0, .inr (10, [.ref w1, .ref w2, .ref w3, .ref w4, .ref w5, .ref w6, .ref w7, .ref w8])), (w1, .inr (7, [.ref w9, .ref w10, .ref w11, .ref w12, .ref w13, .ref w14, .ref w15, .int 0])), (w9, .inl (w16, 8, .inl (fun _ => 0))), (w10, .inl (w17, 8, .inl (fun _ => 0))), (w11, .inl (w18, 8, .inl (fun _ => 0))), (w12, .inl (w19, 8, .inl (fun _ => 0))), (w13, .inl (w20, 8, .inl (fun _ => 0))), (w14, .inl (w21, 8, .inl (fun _ => 0))), (w15, .inl (w22, 8, .inl (fun _ => 0))), (w2, .inr (2, [.ref w23, .ref w24, .ref w25, .int 0, .int (-1), .int (-1)])), (w3, .inr (4, [.ref w26, .ref w27, .ref w28, .int 0, .int 0, .int 0, .int 45])), (w26, .inr (3, [.ref w1, .ref w2, .ref w29, .ref w30, .ref w31, .ref w32, .ref w33, .int 0, .int 0])), (w52, .inl (w53, 1, .inr (.inl (fun _ => 0))))]) [0, 1, 2, 3, 4, 5, 6, 7, 8, 9, 10, 11, 15] rfl
          have hKc := hK.sub (tys' := [(w16, .char), (w17, .char), (w18, .int), (w19, .boolean), (w20, .boolean), (w21, .boolean), (w22, .int), (w53, .long)]) [0, 1, 2, 3, 4, 5, 6, 7] rfl
          have hDc := hD.sub (ws' := [(w0, .inr (10, [.ref w1, .ref w2, .ref w3, .ref w4, .ref w5, .ref w6, .ref w7, .ref w8])), (w1, .inr (7, [.ref w9, .ref w10, .ref w11, .ref w12, .ref w13, .ref w14, .ref w15, .int 0])), (w9, .inl (w16, 8, .inl (fun _ => 0))), (w10, .inl (w17, 8, .inl (fun _ => 0))), (w11, .inl (w18, 8, .inl (fun _ => 0))), (w12, .inl (w19, 8, .inl (fun _ => 0))), (w13, .inl (w20, 8, .inl (fun _ => 0))), (w14, .inl (w21, 8, .inl (fun _ => 0))), (w15, .inl (w22, 8, .inl (fun _ => 0))), (w2, .inr (2, [.ref w23, .ref w24, .ref w25, .int 0, .int (-1), .int (-1)])), (w3, .inr (4, [.ref w26, .ref w27, .ref w28, .int 0, .int 0, .int 0, .int 45])), (w26, .inr (3, [.ref w1, .ref w2, .ref w29, .ref w30, .ref w31, .ref w32, .ref w33, .int 0, .int 0])), (w52, .inl (w53, 1, .inr (.inl (fun _ => 0))))]) [0, 1, 2, 3, 4, 5, 6, 7, 8, 9, 10, 11, 15] (by decide) rfl
          have hFc := va_free (wc := [(w0, .inr (10, [.ref w1, .ref w2, .ref w3, .ref w4, .ref w5, .ref w6, .ref w7, .ref w8])), (w1, .inr (7, [.ref w9, .ref w10, .ref w11, .ref w12, .ref w13, .ref w14, .ref w15, .int 0])), (w9, .inl (w16, 8, .inl (fun _ => 0))), (w10, .inl (w17, 8, .inl (fun _ => 0))), (w11, .inl (w18, 8, .inl (fun _ => 0))), (w12, .inl (w19, 8, .inl (fun _ => 0))), (w13, .inl (w20, 8, .inl (fun _ => 0))), (w14, .inl (w21, 8, .inl (fun _ => 0))), (w15, .inl (w22, 8, .inl (fun _ => 0))), (w2, .inr (2, [.ref w23, .ref w24, .ref w25, .int 0, .int (-1), .int (-1)])), (w3, .inr (4, [.ref w26, .ref w27, .ref w28, .int 0, .int 0, .int 0, .int 45])), (w26, .inr (3, [.ref w1, .ref w2, .ref w29, .ref w30, .ref w31, .ref w32, .ref w33, .int 0, .int 0])), (w52, .inl (w53, 1, .inr (.inl (fun _ => 0))))]) hD hS hA [0, 1, 2, 3, 4, 5, 6, 7, 8, 9, 10, 11, 15] rfl
          refine vx_calli (vx_runSX (As := [.ref w0, .int (((xs (1 : Int32).toNatClampNeg).toUInt32 % 65536).toInt32), .int (((xs (2 : Int32).toNatClampNeg).toUInt32 % 65536).toInt32), .int (xs (3 : Int32).toNatClampNeg), .int 1, .int 0, .int 1, .ref w52]) (rest := []) ⟨hx, hb, hml, hown, hq⟩ (c_L_role_ok l hst tE adK adV dC dI w0 w1 w2 w3 w4 w5 w6 w7 w8 w9 w10 w11 w12 w13 w14 w15 w16 w17 w18 w19 w20 w21 w22 w23 w24 w25 w26 w27 w28 w29 w30 w31 w32 w33 w52 w53 (fun _ => 0) (((xs (1 : Int32).toNatClampNeg).toUInt32 % 65536).toInt32) (((xs (2 : Int32).toNatClampNeg).toUInt32 % 65536).toInt32) (xs (3 : Int32).toNatClampNeg) 1 0 1 hok H.size) (tcSW 8 hq q_682 q_0 q_680 q_681 rfl rfl (by decide +kernel) ⟨Nat.le_of_ble_eq_true rfl, Nat.le_of_ble_eq_true rfl⟩) (pre.S (pre.of hPc hDc hKc ham hS hFc)) rfl rfl hl.1 rfl (lv_room (Nat.le_of_ble_eq_true rfl)) dL_law_281 ⟨Nat.le_of_ble_eq_true rfl, Nat.le_of_ble_eq_true rfl⟩) hS (fun q _ h => hFc q h) hFc (fun q _ h => hFc q h) (fun E ce q9 u t H1 locs ht hvm hpx hB hz1 hk1 hS hce hcv hcl => ?_) (fun r_52 u t H1 locs ht hvm hw hB hz1 hk1 hS => ?_)
          · exact (hB : False).elim
          · obtain ⟨hP1, hK1, hD1⟩ := hB
            rw [ht] at hP1
            have hK1 := va_K.moved hvm.symm hK1
            obtain ⟨hP, hD⟩ := va_join (wr := [(w34, .inr (12, [.int 0, .ref w35, .ref w36, .ref w37, .int (-1), .int (-1), .int 0, .ref w38, .ref w39, .ref w40, .ref w41, .ref w42, .ref w43, .ref w44, .ref w45, .ref w46, .int 0, .int 0, .null, .int 0, .int 45, .ref w47, .ref w48, .ref w49, .ref w50, .ref w51])), (w35, .inr (14, [.int 0, .ref tE, .int 0])), (w36, .inr (14, [.int 0, .ref tE, .int 0])), (w54, .inl (w55, 1, .inr (.inr (.inr (.inl (fun _ => 0))))))]) (w1 := [(w52, .inl (w53, 1, .inr (.inl (vp_updL (fun _ => 0) (0 : Int32).toNatClampNeg 0))))]) (wc := [(w0, .inr (10, [.ref w1, .ref w2, .ref w3, .ref w4, .ref w5, .ref w6, .ref w7, .ref w8])), (w1, .inr (7, [.ref w9, .ref w10, .ref w11, .ref w12, .ref w13, .ref w14, .ref w15, .int 0])), (w9, .inl (w16, 8, .inl (fun _ => 0))), (w10, .inl (w17, 8, .inl (fun _ => 0))), (w11, .inl (w18, 8, .inl (fun _ => 0))), (w12, .inl (w19, 8, .inl (fun _ => 0))), (w13, .inl (w20, 8, .inl (fun _ => 0))), (w14, .inl (w21, 8, .inl (fun _ => 0))), (w15, .inl (w22, 8, .inl (fun _ => 0))), (w2, .inr (2, [.ref w23, .ref w24, .ref w25, .int 0, .int (-1), .int (-1)])), (w3, .inr (4, [.ref w26, .ref w27, .ref w28, .int 0, .int 0, .int 0, .int 45])), (w26, .inr (3, [.ref w1, .ref w2, .ref w29, .ref w30, .ref w31, .ref w32, .ref w33, .int 0, .int 0])), (w52, .inl (w53, 1, .inr (.inl (fun _ => 0))))]) hP hD [0, 1, 2, 3, 4, 5, 6, 7, 8, 9, 10, 11, 15] [12, 13, 14, 16] rfl rfl (by decide) (by decide) hk1 hFc hP1 hD1
            have hK := (hK.sub (tys' := [(w16, .char), (w17, .char), (w18, .int), (w19, .boolean), (w20, .boolean), (w21, .boolean), (w22, .int), (w53, .long), (w55, .double)]) [0, 1, 2, 3, 4, 5, 6, 7, 8] rfl).app hK1
            generalize H1 = H at hP hS ⊢
            have hP : va_P (dC, dI) cls [(w34, .inr (12, [.int 0, .ref w35, .ref w36, .ref w37, .int (-1), .int (-1), .int 0, .ref w38, .ref w39, .ref w40, .ref w41, .ref w42, .ref w43, .ref w44, .ref w45, .ref w46, .int 0, .int 0, .null, .int 0, .int 45, .ref w47, .ref w48, .ref w49, .ref w50, .ref w51])), (w35, .inr (14, [.int 0, .ref tE, .int 0])), (w36, .inr (14, [.int 0, .ref tE, .int 0])), (w54, .inl (w55, 1, .inr (.inr (.inr (.inl (fun _ => 0)))))), (w52, .inl (w53, 1, .inr (.inl (vp_updL (fun _ => 0) (0 : Int32).toNatClampNeg 0))))] H := hP
            have hD : va_D A [(w34, .inr (12, [.int 0, .ref w35, .ref w36, .ref w37, .int (-1), .int (-1), .int 0, .ref w38, .ref w39, .ref w40, .ref w41, .ref w42, .ref w43, .ref w44, .ref w45, .ref w46, .int 0, .int 0, .null, .int 0, .int 45, .ref w47, .ref w48, .ref w49, .ref w50, .ref w51])), (w35, .inr (14, [.int 0, .ref tE, .int 0])), (w36, .inr (14, [.int 0, .ref tE, .int 0])), (w54, .inl (w55, 1, .inr (.inr (.inr (.inl (fun _ => 0)))))), (w52, .inl (w53, 1, .inr (.inl (vp_updL (fun _ => 0) (0 : Int32).toNatClampNeg 0))))] := hD
            have hK : va_K (dC, dI) cls [(w16, .char), (w17, .char), (w18, .int), (w19, .boolean), (w20, .boolean), (w21, .boolean), (w22, .int), (w53, .long), (w55, .double), (w53, .long)] s := hK
            refine W.widen (k := 91) (n := 4902) (Nat.le_of_ble_eq_true rfl) (Nat.le_of_ble_eq_true rfl) ?_
            have hw : r_52 = 0 := hw
            subst hw
            refine lv_istore (lv' := [(6, .int 0), (5, .int 0), (4, .ref w54), (3, .ref w52), (2, .ref w34), (1, .ref w0), (0, .ref b)]) hx hb dL_law_284 hl (by decide) rfl (fun ls hl => ?_)
            refine lv_aload_n hx hb dL_law_286 rfl (lv_at hl 4 rfl) ?_
            refine lv_aload_n hx hb dL_law_287 rfl (lv_at hl 6 rfl) ?_
            refine lv_iload hx hb dL_law_288 (lv_at hl 1 rfl) ?_
            refine lv_iconst (v := 1) hx hb dL_law_290 (by decide) ?_
            refine lv_iadd hx hb dL_law_291 ?_
            refine W.eq (congrArg (fun z : Int32 => F0 m 292 ls (.int z :: [.ref b, .ref w34])) (by decide : (0 + 1 : Int32) = 1)) ?_
            refine va_sld hx hb hX hbl hbA hS (i := 1) (by unfold vp_in; decide) dL_law_292 ?_
            refine lv_i2c (v := ((xs (1 : Int32).toNatClampNeg).toUInt32 % 65536).toInt32) hx hb dL_law_293 rfl ?_
            refine lv_aload_n hx hb dL_law_294 rfl (lv_at hl 6 rfl) ?_
            refine lv_iload hx hb dL_law_295 (lv_at hl 1 rfl) ?_
            refine lv_iconst (v := 2) hx hb dL_law_297 (by decide) ?_
            refine lv_iadd hx hb dL_law_298 ?_
            refine W.eq (congrArg (fun z : Int32 => F0 m 299 ls (.int z :: [.ref b, .int (((xs (1 : Int32).toNatClampNeg).toUInt32 % 65536).toInt32), .ref w34])) (by decide : (0 + 2 : Int32) = 2)) ?_
            refine va_sld hx hb hX hbl hbA hS (i := 2) (by unfold vp_in; decide) dL_law_299 ?_
            refine lv_i2c (v := ((xs (2 : Int32).toNatClampNeg).toUInt32 % 65536).toInt32) hx hb dL_law_300 rfl ?_
            refine lv_aload_n hx hb dL_law_301 rfl (lv_at hl 6 rfl) ?_
            refine lv_iload hx hb dL_law_302 (lv_at hl 1 rfl) ?_
            refine lv_iconst (v := 3) hx hb dL_law_304 (by decide) ?_
            refine lv_iadd hx hb dL_law_305 ?_
            refine W.eq (congrArg (fun z : Int32 => F0 m 306 ls (.int z :: [.ref b, .int (((xs (2 : Int32).toNatClampNeg).toUInt32 % 65536).toInt32), .int (((xs (1 : Int32).toNatClampNeg).toUInt32 % 65536).toInt32), .ref w34])) (by decide : (0 + 3 : Int32) = 3)) ?_
            refine va_sld hx hb hX hbl hbA hS (i := 3) (by unfold vp_in; decide) dL_law_306 ?_
            refine lv_aload_n hx hb dL_law_307 rfl (lv_at hl 6 rfl) ?_
            refine lv_iload hx hb dL_law_308 (lv_at hl 1 rfl) ?_
            refine lv_iconst (v := 4) hx hb dL_law_310 (by decide) ?_
            refine lv_iadd hx hb dL_law_311 ?_
            refine W.eq (congrArg (fun z : Int32 => F0 m 312 ls (.int z :: [.ref b, .int (xs (3 : Int32).toNatClampNeg), .int (((xs (2 : Int32).toNatClampNeg).toUInt32 % 65536).toInt32), .int (((xs (1 : Int32).toNatClampNeg).toUInt32 % 65536).toInt32), .ref w34])) (by decide : (0 + 4 : Int32) = 4)) ?_
            refine va_sld hx hb hX hbl hbA hS (i := 4) (by unfold vp_in; decide) dL_law_312 ?_
            refine lv_if_eq (tgt := 320) hx hb dL_law_313 (by decide) (fun c_53 => ?_) (fun c_53 => ?_)
            · exact absurd c_53 c_1
            · refine lv_iconst (v := 1) hx hb dL_law_316 (by decide) ?_
              refine lv_goto (tgt := 321) hx hb dL_law_317 (by decide) ?_
              refine lv_aload_n hx hb dL_law_321 rfl (lv_at hl 6 rfl) ?_
              refine lv_iload hx hb dL_law_322 (lv_at hl 1 rfl) ?_
              refine lv_iconst (v := 5) hx hb dL_law_324 (by decide) ?_
              refine lv_iadd hx hb dL_law_325 ?_
              refine W.eq (congrArg (fun z : Int32 => F0 m 326 ls (.int z :: [.ref b, .int 1, .int (xs (3 : Int32).toNatClampNeg), .int (((xs (2 : Int32).toNatClampNeg).toUInt32 % 65536).toInt32), .int (((xs (1 : Int32).toNatClampNeg).toUInt32 % 65536).toInt32), .ref w34])) (by decide : (0 + 5 : Int32) = 5)) ?_
              refine va_sld hx hb hX hbl hbA hS (i := 5) (by unfold vp_in; decide) dL_law_326 ?_
              refine lv_if_eq (tgt := 334) hx hb dL_law_327 (by decide) (fun c_54 => ?_) (fun c_54 => ?_)
              · refine lv_iconst (v := 0) hx hb dL_law_334 (by decide) ?_
                refine lv_aload_n hx hb dL_law_335 rfl (lv_at hl 6 rfl) ?_
                refine lv_iload hx hb dL_law_336 (lv_at hl 1 rfl) ?_
                refine lv_bipush (v := 6) hx hb dL_law_338 (by decide) ?_
                refine lv_iadd hx hb dL_law_340 ?_
                refine W.eq (congrArg (fun z : Int32 => F0 m 341 ls (.int z :: [.ref b, .int 0, .int 1, .int (xs (3 : Int32).toNatClampNeg), .int (((xs (2 : Int32).toNatClampNeg).toUInt32 % 65536).toInt32), .int (((xs (1 : Int32).toNatClampNeg).toUInt32 % 65536).toInt32), .ref w34])) (by decide : (0 + 6 : Int32) = 6)) ?_
                refine va_sld hx hb hX hbl hbA hS (i := 6) (by unfold vp_in; decide) dL_law_341 ?_
                refine lv_if_eq (tgt := 349) hx hb dL_law_342 (by decide) (fun c_55 => ?_) (fun c_55 => ?_)
                · exact absurd c_55 c_42
                · refine lv_iconst (v := 1) hx hb dL_law_345 (by decide) ?_
                  refine lv_goto (tgt := 350) hx hb dL_law_346 (by decide) ?_
                  have hPc := hP.sub (ws' := [(w34, .inr (12, [.int 0, .ref w35, .ref w36, .ref w37, .int (-1), .int (-1), .int 0, .ref w38, .ref w39, .ref w40, .ref w41, .ref w42, .ref w43, .ref w44, .ref w45, .ref w46, .int 0, .int 0, .null, .int 0, .int 45, .ref w47, .ref w48, .ref w49, .ref w50, .ref w51])), (w35, .inr (14, [.int 0, .ref tE, .int 0])), (w36, .inr (14, [.int 0, .ref tE, .int 0]))]) [0, 1, 2] rfl
                  have hKc := hK.sub (tys' := []) [] rfl
                  have hDc := hD.sub (ws' := [(w34, .inr (12, [.int 0, .ref w35, .ref w36, .ref w37, .int (-1), .int (-1), .int 0, .ref w38, .ref w39, .ref w40, .ref w41, .ref w42, .ref w43, .ref w44, .ref w45, .ref w46, .int 0, .int 0, .null, .int 0, .int 45, .ref w47, .ref w48, .ref w49, .ref w50, .ref w51])), (w35, .inr (14, [.int 0, .ref tE, .int 0])), (w36, .inr (14, [.int 0, .ref tE, .int 0]))]) [0, 1, 2] (by decide) rfl
                  have hFc := va_free (wc := [(w34, .inr (12, [.int 0, .ref w35, .ref w36, .ref w37, .int (-1), .int (-1), .int 0, .ref w38, .ref w39, .ref w40, .ref w41, .ref w42, .ref w43, .ref w44, .ref w45, .ref w46, .int 0, .int 0, .null, .int 0, .int 45, .ref w47, .ref w48, .ref w49, .ref w50, .ref w51])), (w35, .inr (14, [.int 0, .ref tE, .int 0])), (w36, .inr (14, [.int 0, .ref tE, .int 0]))]) hD hS hA [0, 1, 2] rfl
                  refine va_calli (va_runV (As := [.int (((xs (1 : Int32).toNatClampNeg).toUInt32 % 65536).toInt32), .int (((xs (2 : Int32).toNatClampNeg).toUInt32 % 65536).toInt32), .int (xs (3 : Int32).toNatClampNeg), .int 1, .int 0, .int 1]) (rest := []) ⟨hx, hb, hml, hown, hq⟩ (c_M_role_ok l hst tE adK adV dC dI w34 w35 w36 w37 w38 w39 w40 w41 w42 w43 w44 w45 w46 w47 w48 w49 w50 w51 0 (((xs (1 : Int32).toNatClampNeg).toUInt32 % 65536).toInt32) (((xs (2 : Int32).toNatClampNeg).toUInt32 % 65536).toInt32) (xs (3 : Int32).toNatClampNeg) 1 0 1 hok (Or.inr rfl) (Or.inl rfl) (Or.inr rfl) H.size) (tcV 6 hq q_1386 q_12 q_1383 q_1384 q_1385 rfl rfl (by decide +kernel) ⟨Nat.le_of_ble_eq_true rfl, Nat.le_of_ble_eq_true rfl⟩) (pre.V (va_recv hK hP (ci := 12) (q0 := 0) rfl rfl) (pre.of hPc hDc hKc ham hS hFc)) rfl rfl hl.1 rfl (lv_room (Nat.le_of_ble_eq_true rfl)) dL_law_350 ⟨Nat.le_of_ble_eq_true rfl, Nat.le_of_ble_eq_true rfl⟩) hS (fun q _ h => hFc q h) hFc (fun r_56 u t H1 locs ht hvm hw hB hz1 hk1 hS => ?_)
                  obtain ⟨hP1, hK1, hD1⟩ := hB
                  rw [ht] at hP1
                  have hK1 := va_K.moved hvm.symm hK1
                  obtain ⟨hP, hD⟩ := va_join (wr := [(w54, .inl (w55, 1, .inr (.inr (.inr (.inl (fun _ => 0)))))), (w52, .inl (w53, 1, .inr (.inl (vp_updL (fun _ => 0) (0 : Int32).toNatClampNeg 0))))]) (w1 := [(w34, .inr (12, [.int 0, .ref w35, .ref w36, .ref w37, .int (-1), .int (-1), .int 0, .ref w38, .ref w39, .ref w40, .ref w41, .ref w42, .ref w43, .ref w44, .ref w45, .ref w46, .int 0, .int 0, .null, .int 0, .int 45, .ref w47, .ref w48, .ref w49, .ref w50, .ref w51]))]) (wc := [(w34, .inr (12, [.int 0, .ref w35, .ref w36, .ref w37, .int (-1), .int (-1), .int 0, .ref w38, .ref w39, .ref w40, .ref w41, .ref w42, .ref w43, .ref w44, .ref w45, .ref w46, .int 0, .int 0, .null, .int 0, .int 45, .ref w47, .ref w48, .ref w49, .ref w50, .ref w51])), (w35, .inr (14, [.int 0, .ref tE, .int 0])), (w36, .inr (14, [.int 0, .ref tE, .int 0]))]) hP hD [0, 1, 2] [3, 4] rfl rfl (by decide) (by decide) hk1 hFc hP1 hD1
                  have hK := (hK.sub (tys' := [(w16, .char), (w17, .char), (w18, .int), (w19, .boolean), (w20, .boolean), (w21, .boolean), (w22, .int), (w53, .long), (w55, .double), (w53, .long)]) [0, 1, 2, 3, 4, 5, 6, 7, 8, 9] rfl).app hK1
                  generalize H1 = H at hP hS ⊢
                  have hP : va_P (dC, dI) cls [(w54, .inl (w55, 1, .inr (.inr (.inr (.inl (fun _ => 0)))))), (w52, .inl (w53, 1, .inr (.inl (vp_updL (fun _ => 0) (0 : Int32).toNatClampNeg 0)))), (w34, .inr (12, [.int 0, .ref w35, .ref w36, .ref w37, .int (-1), .int (-1), .int 0, .ref w38, .ref w39, .ref w40, .ref w41, .ref w42, .ref w43, .ref w44, .ref w45, .ref w46, .int 0, .int 0, .null, .int 0, .int 45, .ref w47, .ref w48, .ref w49, .ref w50, .ref w51]))] H := hP
                  have hD : va_D A [(w54, .inl (w55, 1, .inr (.inr (.inr (.inl (fun _ => 0)))))), (w52, .inl (w53, 1, .inr (.inl (vp_updL (fun _ => 0) (0 : Int32).toNatClampNeg 0)))), (w34, .inr (12, [.int 0, .ref w35, .ref w36, .ref w37, .int (-1), .int (-1), .int 0, .ref w38, .ref w39, .ref w40, .ref w41, .ref w42, .ref w43, .ref w44, .ref w45, .ref w46, .int 0, .int 0, .null, .int 0, .int 45, .ref w47, .ref w48, .ref w49, .ref w50, .ref w51]))] := hD
                  have hK : va_K (dC, dI) cls [(w16, .char), (w17, .char), (w18, .int), (w19, .boolean), (w20, .boolean), (w21, .boolean), (w22, .int), (w53, .long), (w55, .double), (w53, .long)] s := hK
                  refine W.widen (k := 93) (n := 4919) (Nat.le_of_ble_eq_true rfl) (Nat.le_of_ble_eq_true rfl) ?_
                  have hw : r_56 = 0 := hw
                  subst hw
                  refine lv_istore (lv' := [(7, .int 0), (6, .int 0), (5, .int 0), (4, .ref w54), (3, .ref w52), (2, .ref w34), (1, .ref w0), (0, .ref b)]) hx hb dL_law_353 hl (by decide) rfl (fun ls hl => ?_)
                  refine lv_aload_n hx hb dL_law_355 rfl (lv_at hl 5 rfl) ?_
                  have hPc := hP.sub (ws' := [(w34, .inr (12, [.int 0, .ref w35, .ref w36, .ref w37, .int (-1), .int (-1), .int 0, .ref w38, .ref w39, .ref w40, .ref w41, .ref w42, .ref w43, .ref w44, .ref w45, .ref w46, .int 0, .int 0, .null, .int 0, .int 45, .ref w47, .ref w48, .ref w49, .ref w50, .ref w51]))]) [2] rfl
                  have hKc := hK.sub (tys' := []) [] rfl
                  refine va_calli (va_runV (As := []) (rest := []) ⟨hx, hb, hml, hown, hq⟩ (c_thrown l hst tE adK adV dC dI w34 w35 w36 w37 w38 w39 w40 w41 w42 w43 w44 w45 w46 w47 w48 w49 w50 w51 0 H.size) (tcV 0 hq q_1264 q_12 q_1261 q_1262 q_1263 rfl rfl (by decide +kernel) ⟨Nat.le_of_ble_eq_true rfl, Nat.le_of_ble_eq_true rfl⟩) (preR.V (va_recv hK hP (ci := 12) (q0 := 2) rfl rfl) (preR.of hPc hKc ham hS hA)) rfl rfl hl.1 rfl (lv_room (Nat.le_of_ble_eq_true rfl)) dL_law_356 ⟨Nat.le_of_ble_eq_true rfl, Nat.le_of_ble_eq_true rfl⟩) hS (fun q _ h => hA q (Nat.le_trans hS.1 h)) (fun q h => hA q (Nat.le_trans hS.1 h)) (fun r_57 u t H1 locs ht hvm hw hB hz1 hk1 hS => ?_)
                  have hP : va_P (dC, dI) cls [(w54, .inl (w55, 1, .inr (.inr (.inr (.inl (fun _ => 0)))))), (w52, .inl (w53, 1, .inr (.inl (vp_updL (fun _ => 0) (0 : Int32).toNatClampNeg 0)))), (w34, .inr (12, [.int 0, .ref w35, .ref w36, .ref w37, .int (-1), .int (-1), .int 0, .ref w38, .ref w39, .ref w40, .ref w41, .ref w42, .ref w43, .ref w44, .ref w45, .ref w46, .int 0, .int 0, .null, .int 0, .int 45, .ref w47, .ref w48, .ref w49, .ref w50, .ref w51]))] H1 := ro_keep hP hk1
                  generalize H1 = H at hP hS ⊢
                  refine W.widen (k := 93) (n := 4919) (Nat.le_of_ble_eq_true rfl) (Nat.le_of_ble_eq_true rfl) ?_
                  have hw : r_57 = 0 := hw
                  subst hw
                  refine lv_iload hx hb dL_law_359 (lv_at hl 1 rfl) ?_
                  refine lv_icmp_eq (tgt := 366) hx hb dL_law_361 (by decide) (fun c_58 => ?_) (fun c_58 => ?_)
                  · refine lv_iload hx hb dL_law_366 (lv_at hl 1 rfl) ?_
                    refine lv_if_ne (tgt := 383) hx hb dL_law_368 (by decide) (fun c_59 => ?_) (fun c_59 => ?_)
                    · exact absurd c_59 (by decide)
                    · refine lv_aload_n hx hb dL_law_371 rfl (lv_at hl 4 rfl) ?_
                      refine lv_iconst (v := 0) hx hb dL_law_372 (by decide) ?_
                      refine va_lald hx hb hK hP 1 7 rfl rfl (by unfold vp_in; decide) dL_law_373 ?_
                      refine W.eq (congrArg (fun z : Int64 => F0 m 374 ls (.long z :: [])) pk_uLs) ?_
                      refine lv_iload hx hb dL_law_374 (lv_at hl 0 rfl) ?_
                      refine lv_i2l (v := 0) hx hb dL_law_376 (by decide) ?_
                      refine W.lcmp hx hb dL_law_377 ?_
                      refine W.eq (congrArg (fun z : Int32 => F0 m 378 ls (.int z :: [])) (by decide : lg_cmp 0 0 = 0)) ?_
                      refine lv_if_eq (tgt := 383) hx hb dL_law_378 (by decide) (fun c_60 => ?_) (fun c_60 => ?_)
                      · refine lv_goto (tgt := 2585) hx hb dL_law_383 (by decide) ?_
                        refine W.widen (k := 600002) (n := 7302232) (Nat.le_of_ble_eq_true rfl) (Nat.le_of_ble_eq_true rfl) ?_
                        exact law_end C0 hA hA2 hS (lv_sub hl [7, 2] rfl)
                      · exact absurd c_60 (by decide)
                  · exact absurd c_58 (by decide)
              · exact absurd c_41 c_54
      · refine lv_iconst (v := 1) hx hb dL_law_260 (by decide) ?_
        refine lv_goto (tgt := 265) hx hb dL_law_261 (by decide) ?_
        refine lv_aload_n hx hb dL_law_265 rfl (lv_at hl 5 rfl) ?_
        refine lv_iload hx hb dL_law_266 (lv_at hl 0 rfl) ?_
        refine lv_bipush (v := 6) hx hb dL_law_268 (by decide) ?_
        refine lv_iadd hx hb dL_law_270 ?_
        refine W.eq (congrArg (fun z : Int32 => F0 m 271 ls (.int z :: [.ref b, .int 1, .int 1, .int (xs (3 : Int32).toNatClampNeg), .int (((xs (2 : Int32).toNatClampNeg).toUInt32 % 65536).toInt32), .int (((xs (1 : Int32).toNatClampNeg).toUInt32 % 65536).toInt32), .ref w0])) (by decide : (0 + 6 : Int32) = 6)) ?_
        refine va_sld hx hb hX hbl hbA hS (i := 6) (by unfold vp_in; decide) dL_law_271 ?_
        refine lv_if_eq (tgt := 279) hx hb dL_law_272 (by decide) (fun c_61 => ?_) (fun c_61 => ?_)
        · refine lv_iconst (v := 0) hx hb dL_law_279 (by decide) ?_
          refine lv_aload_n hx hb dL_law_280 rfl (lv_at hl 2 rfl) ?_
          have hPc := hP.sub (ws' := [(w0, .inr (10, [.ref w1, .ref w2, .ref w3, .ref w4, .ref w5, .ref w6, .ref w7, .ref w8])), (w1, .inr (7, [.ref w9, .ref w10, .ref w11, .ref w12, .ref w13, .ref w14, .ref w15, .int 0])), (w9, .inl (w16, 8, .inl (fun _ => 0))), (w10, .inl (w17, 8, .inl (fun _ => 0))), (w11, .inl (w18, 8, .inl (fun _ => 0))), (w12, .inl (w19, 8, .inl (fun _ => 0))), (w13, .inl (w20, 8, .inl (fun _ => 0))), (w14, .inl (w21, 8, .inl (fun _ => 0))), (w15, .inl (w22, 8, .inl (fun _ => 0))), (w2, .inr (2, [.ref w23, .ref w24, .ref w25, .int 0, .int (-1), .int (-1)])), (w3, .inr (4, [.ref w26, .ref w27, .ref w28, .int 0, .int 0, .int 0, .int 45])), (w26, .inr (3, [.ref w1, .ref w2, .ref w29, .ref w30, .ref w31, .ref w32, .ref w33, .int 0, .int 0])), (w52, .inl (w53, 1, .inr (.inl (fun _ => 0))))]) [0, 1, 2, 3, 4, 5, 6, 7, 8, 9, 10, 11, 15] rfl
          have hKc := hK.sub (tys' := [(w16, .char), (w17, .char), (w18, .int), (w19, .boolean), (w20, .boolean), (w21, .boolean), (w22, .int), (w53, .long)]) [0, 1, 2, 3, 4, 5, 6, 7] rfl
          have hDc := hD.sub (ws' := [(w0, .inr (10, [.ref w1, .ref w2, .ref w3, .ref w4, .ref w5, .ref w6, .ref w7, .ref w8])), (w1, .inr (7, [.ref w9, .ref w10, .ref w11, .ref w12, .ref w13, .ref w14, .ref w15, .int 0])), (w9, .inl (w16, 8, .inl (fun _ => 0))), (w10, .inl (w17, 8, .inl (fun _ => 0))), (w11, .inl (w18, 8, .inl (fun _ => 0))), (w12, .inl (w19, 8, .inl (fun _ => 0))), (w13, .inl (w20, 8, .inl (fun _ => 0))), (w14, .inl (w21, 8, .inl (fun _ => 0))), (w15, .inl (w22, 8, .inl (fun _ => 0))), (w2, .inr (2, [.ref w23, .ref w24, .ref w25, .int 0, .int (-1), .int (-1)])), (w3, .inr (4, [.ref w26, .ref w27, .ref w28, .int 0, .int 0, .int 0, .int 45])), (w26, .inr (3, [.ref w1, .ref w2, .ref w29, .ref w30, .ref w31, .ref w32, .ref w33, .int 0, .int 0])), (w52, .inl (w53, 1, .inr (.inl (fun _ => 0))))]) [0, 1, 2, 3, 4, 5, 6, 7, 8, 9, 10, 11, 15] (by decide) rfl
          have hFc := va_free (wc := [(w0, .inr (10, [.ref w1, .ref w2, .ref w3, .ref w4, .ref w5, .ref w6, .ref w7, .ref w8])), (w1, .inr (7, [.ref w9, .ref w10, .ref w11, .ref w12, .ref w13, .ref w14, .ref w15, .int 0])), (w9, .inl (w16, 8, .inl (fun _ => 0))), (w10, .inl (w17, 8, .inl (fun _ => 0))), (w11, .inl (w18, 8, .inl (fun _ => 0))), (w12, .inl (w19, 8, .inl (fun _ => 0))), (w13, .inl (w20, 8, .inl (fun _ => 0))), (w14, .inl (w21, 8, .inl (fun _ => 0))), (w15, .inl (w22, 8, .inl (fun _ => 0))), (w2, .inr (2, [.ref w23, .ref w24, .ref w25, .int 0, .int (-1), .int (-1)])), (w3, .inr (4, [.ref w26, .ref w27, .ref w28, .int 0, .int 0, .int 0, .int 45])), (w26, .inr (3, [.ref w1, .ref w2, .ref w29, .ref w30, .ref w31, .ref w32, .ref w33, .int 0, .int 0])), (w52, .inl (w53, 1, .inr (.inl (fun _ => 0))))]) hD hS hA [0, 1, 2, 3, 4, 5, 6, 7, 8, 9, 10, 11, 15] rfl
          refine vx_calli (vx_runSX (As := [.ref w0, .int (((xs (1 : Int32).toNatClampNeg).toUInt32 % 65536).toInt32), .int (((xs (2 : Int32).toNatClampNeg).toUInt32 % 65536).toInt32), .int (xs (3 : Int32).toNatClampNeg), .int 1, .int 1, .int 0, .ref w52]) (rest := []) ⟨hx, hb, hml, hown, hq⟩ (c_L_role_ok l hst tE adK adV dC dI w0 w1 w2 w3 w4 w5 w6 w7 w8 w9 w10 w11 w12 w13 w14 w15 w16 w17 w18 w19 w20 w21 w22 w23 w24 w25 w26 w27 w28 w29 w30 w31 w32 w33 w52 w53 (fun _ => 0) (((xs (1 : Int32).toNatClampNeg).toUInt32 % 65536).toInt32) (((xs (2 : Int32).toNatClampNeg).toUInt32 % 65536).toInt32) (xs (3 : Int32).toNatClampNeg) 1 1 0 hok H.size) (tcSW 8 hq q_682 q_0 q_680 q_681 rfl rfl (by decide +kernel) ⟨Nat.le_of_ble_eq_true rfl, Nat.le_of_ble_eq_true rfl⟩) (pre.S (pre.of hPc hDc hKc ham hS hFc)) rfl rfl hl.1 rfl (lv_room (Nat.le_of_ble_eq_true rfl)) dL_law_281 ⟨Nat.le_of_ble_eq_true rfl, Nat.le_of_ble_eq_true rfl⟩) hS (fun q _ h => hFc q h) hFc (fun q _ h => hFc q h) (fun E ce q9 u t H1 locs ht hvm hpx hB hz1 hk1 hS hce hcv hcl => ?_) (fun r_62 u t H1 locs ht hvm hw hB hz1 hk1 hS => ?_)
          · exact (hB : False).elim
          · obtain ⟨hP1, hK1, hD1⟩ := hB
            rw [ht] at hP1
            have hK1 := va_K.moved hvm.symm hK1
            obtain ⟨hP, hD⟩ := va_join (wr := [(w34, .inr (12, [.int 0, .ref w35, .ref w36, .ref w37, .int (-1), .int (-1), .int 0, .ref w38, .ref w39, .ref w40, .ref w41, .ref w42, .ref w43, .ref w44, .ref w45, .ref w46, .int 0, .int 0, .null, .int 0, .int 45, .ref w47, .ref w48, .ref w49, .ref w50, .ref w51])), (w35, .inr (14, [.int 0, .ref tE, .int 0])), (w36, .inr (14, [.int 0, .ref tE, .int 0])), (w54, .inl (w55, 1, .inr (.inr (.inr (.inl (fun _ => 0))))))]) (w1 := [(w52, .inl (w53, 1, .inr (.inl (vp_updL (fun _ => 0) (0 : Int32).toNatClampNeg 0))))]) (wc := [(w0, .inr (10, [.ref w1, .ref w2, .ref w3, .ref w4, .ref w5, .ref w6, .ref w7, .ref w8])), (w1, .inr (7, [.ref w9, .ref w10, .ref w11, .ref w12, .ref w13, .ref w14, .ref w15, .int 0])), (w9, .inl (w16, 8, .inl (fun _ => 0))), (w10, .inl (w17, 8, .inl (fun _ => 0))), (w11, .inl (w18, 8, .inl (fun _ => 0))), (w12, .inl (w19, 8, .inl (fun _ => 0))), (w13, .inl (w20, 8, .inl (fun _ => 0))), (w14, .inl (w21, 8, .inl (fun _ => 0))), (w15, .inl (w22, 8, .inl (fun _ => 0))), (w2, .inr (2, [.ref w23, .ref w24, .ref w25, .int 0, .int (-1), .int (-1)])), (w3, .inr (4, [.ref w26, .ref w27, .ref w28, .int 0, .int 0, .int 0, .int 45])), (w26, .inr (3, [.ref w1, .ref w2, .ref w29, .ref w30, .ref w31, .ref w32, .ref w33, .int 0, .int 0])), (w52, .inl (w53, 1, .inr (.inl (fun _ => 0))))]) hP hD [0, 1, 2, 3, 4, 5, 6, 7, 8, 9, 10, 11, 15] [12, 13, 14, 16] rfl rfl (by decide) (by decide) hk1 hFc hP1 hD1
            have hK := (hK.sub (tys' := [(w16, .char), (w17, .char), (w18, .int), (w19, .boolean), (w20, .boolean), (w21, .boolean), (w22, .int), (w53, .long), (w55, .double)]) [0, 1, 2, 3, 4, 5, 6, 7, 8] rfl).app hK1
            generalize H1 = H at hP hS ⊢
            have hP : va_P (dC, dI) cls [(w34, .inr (12, [.int 0, .ref w35, .ref w36, .ref w37, .int (-1), .int (-1), .int 0, .ref w38, .ref w39, .ref w40, .ref w41, .ref w42, .ref w43, .ref w44, .ref w45, .ref w46, .int 0, .int 0, .null, .int 0, .int 45, .ref w47, .ref w48, .ref w49, .ref w50, .ref w51])), (w35, .inr (14, [.int 0, .ref tE, .int 0])), (w36, .inr (14, [.int 0, .ref tE, .int 0])), (w54, .inl (w55, 1, .inr (.inr (.inr (.inl (fun _ => 0)))))), (w52, .inl (w53, 1, .inr (.inl (vp_updL (fun _ => 0) (0 : Int32).toNatClampNeg 0))))] H := hP
            have hD : va_D A [(w34, .inr (12, [.int 0, .ref w35, .ref w36, .ref w37, .int (-1), .int (-1), .int 0, .ref w38, .ref w39, .ref w40, .ref w41, .ref w42, .ref w43, .ref w44, .ref w45, .ref w46, .int 0, .int 0, .null, .int 0, .int 45, .ref w47, .ref w48, .ref w49, .ref w50, .ref w51])), (w35, .inr (14, [.int 0, .ref tE, .int 0])), (w36, .inr (14, [.int 0, .ref tE, .int 0])), (w54, .inl (w55, 1, .inr (.inr (.inr (.inl (fun _ => 0)))))), (w52, .inl (w53, 1, .inr (.inl (vp_updL (fun _ => 0) (0 : Int32).toNatClampNeg 0))))] := hD
            have hK : va_K (dC, dI) cls [(w16, .char), (w17, .char), (w18, .int), (w19, .boolean), (w20, .boolean), (w21, .boolean), (w22, .int), (w53, .long), (w55, .double), (w53, .long)] s := hK
            refine W.widen (k := 91) (n := 4902) (Nat.le_of_ble_eq_true rfl) (Nat.le_of_ble_eq_true rfl) ?_
            have hw : r_62 = 0 := hw
            subst hw
            refine lv_istore (lv' := [(6, .int 0), (5, .int 0), (4, .ref w54), (3, .ref w52), (2, .ref w34), (1, .ref w0), (0, .ref b)]) hx hb dL_law_284 hl (by decide) rfl (fun ls hl => ?_)
            refine lv_aload_n hx hb dL_law_286 rfl (lv_at hl 4 rfl) ?_
            refine lv_aload_n hx hb dL_law_287 rfl (lv_at hl 6 rfl) ?_
            refine lv_iload hx hb dL_law_288 (lv_at hl 1 rfl) ?_
            refine lv_iconst (v := 1) hx hb dL_law_290 (by decide) ?_
            refine lv_iadd hx hb dL_law_291 ?_
            refine W.eq (congrArg (fun z : Int32 => F0 m 292 ls (.int z :: [.ref b, .ref w34])) (by decide : (0 + 1 : Int32) = 1)) ?_
            refine va_sld hx hb hX hbl hbA hS (i := 1) (by unfold vp_in; decide) dL_law_292 ?_
            refine lv_i2c (v := ((xs (1 : Int32).toNatClampNeg).toUInt32 % 65536).toInt32) hx hb dL_law_293 rfl ?_
            refine lv_aload_n hx hb dL_law_294 rfl (lv_at hl 6 rfl) ?_
            refine lv_iload hx hb dL_law_295 (lv_at hl 1 rfl) ?_
            refine lv_iconst (v := 2) hx hb dL_law_297 (by decide) ?_
            refine lv_iadd hx hb dL_law_298 ?_
            refine W.eq (congrArg (fun z : Int32 => F0 m 299 ls (.int z :: [.ref b, .int (((xs (1 : Int32).toNatClampNeg).toUInt32 % 65536).toInt32), .ref w34])) (by decide : (0 + 2 : Int32) = 2)) ?_
            refine va_sld hx hb hX hbl hbA hS (i := 2) (by unfold vp_in; decide) dL_law_299 ?_
            refine lv_i2c (v := ((xs (2 : Int32).toNatClampNeg).toUInt32 % 65536).toInt32) hx hb dL_law_300 rfl ?_
            refine lv_aload_n hx hb dL_law_301 rfl (lv_at hl 6 rfl) ?_
            refine lv_iload hx hb dL_law_302 (lv_at hl 1 rfl) ?_
            refine lv_iconst (v := 3) hx hb dL_law_304 (by decide) ?_
            refine lv_iadd hx hb dL_law_305 ?_
            refine W.eq (congrArg (fun z : Int32 => F0 m 306 ls (.int z :: [.ref b, .int (((xs (2 : Int32).toNatClampNeg).toUInt32 % 65536).toInt32), .int (((xs (1 : Int32).toNatClampNeg).toUInt32 % 65536).toInt32), .ref w34])) (by decide : (0 + 3 : Int32) = 3)) ?_
            refine va_sld hx hb hX hbl hbA hS (i := 3) (by unfold vp_in; decide) dL_law_306 ?_
            refine lv_aload_n hx hb dL_law_307 rfl (lv_at hl 6 rfl) ?_
            refine lv_iload hx hb dL_law_308 (lv_at hl 1 rfl) ?_
            refine lv_iconst (v := 4) hx hb dL_law_310 (by decide) ?_
            refine lv_iadd hx hb dL_law_311 ?_
            refine W.eq (congrArg (fun z : Int32 => F0 m 312 ls (.int z :: [.ref b, .int (xs (3 : Int32).toNatClampNeg), .int (((xs (2 : Int32).toNatClampNeg).toUInt32 % 65536).toInt32), .int (((xs (1 : Int32).toNatClampNeg).toUInt32 % 65536).toInt32), .ref w34])) (by decide : (0 + 4 : Int32) = 4)) ?_
            refine va_sld hx hb hX hbl hbA hS (i := 4) (by unfold vp_in; decide) dL_law_312 ?_
            refine lv_if_eq (tgt := 320) hx hb dL_law_313 (by decide) (fun c_63 => ?_) (fun c_63 => ?_)
            · exact absurd c_63 c_1
            · refine lv_iconst (v := 1) hx hb dL_law_316 (by decide) ?_
              refine lv_goto (tgt := 321) hx hb dL_law_317 (by decide) ?_
              refine lv_aload_n hx hb dL_law_321 rfl (lv_at hl 6 rfl) ?_
              refine lv_iload hx hb dL_law_322 (lv_at hl 1 rfl) ?_
              refine lv_iconst (v := 5) hx hb dL_law_324 (by decide) ?_
              refine lv_iadd hx hb dL_law_325 ?_
              refine W.eq (congrArg (fun z : Int32 => F0 m 326 ls (.int z :: [.ref b, .int 1, .int (xs (3 : Int32).toNatClampNeg), .int (((xs (2 : Int32).toNatClampNeg).toUInt32 % 65536).toInt32), .int (((xs (1 : Int32).toNatClampNeg).toUInt32 % 65536).toInt32), .ref w34])) (by decide : (0 + 5 : Int32) = 5)) ?_
              refine va_sld hx hb hX hbl hbA hS (i := 5) (by unfold vp_in; decide) dL_law_326 ?_
              refine lv_if_eq (tgt := 334) hx hb dL_law_327 (by decide) (fun c_64 => ?_) (fun c_64 => ?_)
              · exact absurd c_64 c_41
              · refine lv_iconst (v := 1) hx hb dL_law_330 (by decide) ?_
                refine lv_goto (tgt := 335) hx hb dL_law_331 (by decide) ?_
                refine lv_aload_n hx hb dL_law_335 rfl (lv_at hl 6 rfl) ?_
                refine lv_iload hx hb dL_law_336 (lv_at hl 1 rfl) ?_
                refine lv_bipush (v := 6) hx hb dL_law_338 (by decide) ?_
                refine lv_iadd hx hb dL_law_340 ?_
                refine W.eq (congrArg (fun z : Int32 => F0 m 341 ls (.int z :: [.ref b, .int 1, .int 1, .int (xs (3 : Int32).toNatClampNeg), .int (((xs (2 : Int32).toNatClampNeg).toUInt32 % 65536).toInt32), .int (((xs (1 : Int32).toNatClampNeg).toUInt32 % 65536).toInt32), .ref w34])) (by decide : (0 + 6 : Int32) = 6)) ?_
                refine va_sld hx hb hX hbl hbA hS (i := 6) (by unfold vp_in; decide) dL_law_341 ?_
                refine lv_if_eq (tgt := 349) hx hb dL_law_342 (by decide) (fun c_65 => ?_) (fun c_65 => ?_)
                · refine lv_iconst (v := 0) hx hb dL_law_349 (by decide) ?_
                  have hPc := hP.sub (ws' := [(w34, .inr (12, [.int 0, .ref w35, .ref w36, .ref w37, .int (-1), .int (-1), .int 0, .ref w38, .ref w39, .ref w40, .ref w41, .ref w42, .ref w43, .ref w44, .ref w45, .ref w46, .int 0, .int 0, .null, .int 0, .int 45, .ref w47, .ref w48, .ref w49, .ref w50, .ref w51])), (w35, .inr (14, [.int 0, .ref tE, .int 0])), (w36, .inr (14, [.int 0, .ref tE, .int 0]))]) [0, 1, 2] rfl
                  have hKc := hK.sub (tys' := []) [] rfl
                  have hDc := hD.sub (ws' := [(w34, .inr (12, [.int 0, .ref w35, .ref w36, .ref w37, .int (-1), .int (-1), .int 0, .ref w38, .ref w39, .ref w40, .ref w41, .ref w42, .ref w43, .ref w44, .ref w45, .ref w46, .int 0, .int 0, .null, .int 0, .int 45, .ref w47, .ref w48, .ref w49, .ref w50, .ref w51])), (w35, .inr (14, [.int 0, .ref tE, .int 0])), (w36, .inr (14, [.int 0, .ref tE, .int 0]))]) [0, 1, 2] (by decide) rfl
                  have hFc := va_free (wc := [(w34, .inr (12, [.int 0, .ref w35, .ref w36, .ref w37, .int (-1), .int (-1), .int 0, .ref w38, .ref w39, .ref w40, .ref w41, .ref w42, .ref w43, .ref w44, .ref w45, .ref w46, .int 0, .int 0, .null, .int 0, .int 45, .ref w47, .ref w48, .ref w49, .ref w50, .ref w51])), (w35, .inr (14, [.int 0, .ref tE, .int 0])), (w36, .inr (14, [.int 0, .ref tE, .int 0]))]) hD hS hA [0, 1, 2] rfl
                  refine va_calli (va_runV (As := [.int (((xs (1 : Int32).toNatClampNeg).toUInt32 % 65536).toInt32), .int (((xs (2 : Int32).toNatClampNeg).toUInt32 % 65536).toInt32), .int (xs (3 : Int32).toNatClampNeg), .int 1, .int 1, .int 0]) (rest := []) ⟨hx, hb, hml, hown, hq⟩ (c_M_role_ok l hst tE adK adV dC dI w34 w35 w36 w37 w38 w39 w40 w41 w42 w43 w44 w45 w46 w47 w48 w49 w50 w51 0 (((xs (1 : Int32).toNatClampNeg).toUInt32 % 65536).toInt32) (((xs (2 : Int32).toNatClampNeg).toUInt32 % 65536).toInt32) (xs (3 : Int32).toNatClampNeg) 1 1 0 hok (Or.inr rfl) (Or.inr rfl) (Or.inl rfl) H.size) (tcV 6 hq q_1386 q_12 q_1383 q_1384 q_1385 rfl rfl (by decide +kernel) ⟨Nat.le_of_ble_eq_true rfl, Nat.le_of_ble_eq_true rfl⟩) (pre.V (va_recv hK hP (ci := 12) (q0 := 0) rfl rfl) (pre.of hPc hDc hKc ham hS hFc)) rfl rfl hl.1 rfl (lv_room (Nat.le_of_ble_eq_true rfl)) dL_law_350 ⟨Nat.le_of_ble_eq_true rfl, Nat.le_of_ble_eq_true rfl⟩) hS (fun q _ h => hFc q h) hFc (fun r_66 u t H1 locs ht hvm hw hB hz1 hk1 hS => ?_)
                  obtain ⟨hP1, hK1, hD1⟩ := hB
                  rw [ht] at hP1
                  have hK1 := va_K.moved hvm.symm hK1
                  obtain ⟨hP, hD⟩ := va_join (wr := [(w54, .inl (w55, 1, .inr (.inr (.inr (.inl (fun _ => 0)))))), (w52, .inl (w53, 1, .inr (.inl (vp_updL (fun _ => 0) (0 : Int32).toNatClampNeg 0))))]) (w1 := [(w34, .inr (12, [.int 0, .ref w35, .ref w36, .ref w37, .int (-1), .int (-1), .int 0, .ref w38, .ref w39, .ref w40, .ref w41, .ref w42, .ref w43, .ref w44, .ref w45, .ref w46, .int 0, .int 0, .null, .int 0, .int 45, .ref w47, .ref w48, .ref w49, .ref w50, .ref w51]))]) (wc := [(w34, .inr (12, [.int 0, .ref w35, .ref w36, .ref w37, .int (-1), .int (-1), .int 0, .ref w38, .ref w39, .ref w40, .ref w41, .ref w42, .ref w43, .ref w44, .ref w45, .ref w46, .int 0, .int 0, .null, .int 0, .int 45, .ref w47, .ref w48, .ref w49, .ref w50, .ref w51])), (w35, .inr (14, [.int 0, .ref tE, .int 0])), (w36, .inr (14, [.int 0, .ref tE, .int 0]))]) hP hD [0, 1, 2] [3, 4] rfl rfl (by decide) (by decide) hk1 hFc hP1 hD1
                  have hK := (hK.sub (tys' := [(w16, .char), (w17, .char), (w18, .int), (w19, .boolean), (w20, .boolean), (w21, .boolean), (w22, .int), (w53, .long), (w55, .double), (w53, .long)]) [0, 1, 2, 3, 4, 5, 6, 7, 8, 9] rfl).app hK1
                  generalize H1 = H at hP hS ⊢
                  have hP : va_P (dC, dI) cls [(w54, .inl (w55, 1, .inr (.inr (.inr (.inl (fun _ => 0)))))), (w52, .inl (w53, 1, .inr (.inl (vp_updL (fun _ => 0) (0 : Int32).toNatClampNeg 0)))), (w34, .inr (12, [.int 0, .ref w35, .ref w36, .ref w37, .int (-1), .int (-1), .int 0, .ref w38, .ref w39, .ref w40, .ref w41, .ref w42, .ref w43, .ref w44, .ref w45, .ref w46, .int 0, .int 0, .null, .int 0, .int 45, .ref w47, .ref w48, .ref w49, .ref w50, .ref w51]))] H := hP
                  have hD : va_D A [(w54, .inl (w55, 1, .inr (.inr (.inr (.inl (fun _ => 0)))))), (w52, .inl (w53, 1, .inr (.inl (vp_updL (fun _ => 0) (0 : Int32).toNatClampNeg 0)))), (w34, .inr (12, [.int 0, .ref w35, .ref w36, .ref w37, .int (-1), .int (-1), .int 0, .ref w38, .ref w39, .ref w40, .ref w41, .ref w42, .ref w43, .ref w44, .ref w45, .ref w46, .int 0, .int 0, .null, .int 0, .int 45, .ref w47, .ref w48, .ref w49, .ref w50, .ref w51]))] := hD
                  have hK : va_K (dC, dI) cls [(w16, .char), (w17, .char), (w18, .int), (w19, .boolean), (w20, .boolean), (w21, .boolean), (w22, .int), (w53, .long), (w55, .double), (w53, .long)] s := hK
                  refine W.widen (k := 93) (n := 4919) (Nat.le_of_ble_eq_true rfl) (Nat.le_of_ble_eq_true rfl) ?_
                  have hw : r_66 = 0 := hw
                  subst hw
                  refine lv_istore (lv' := [(7, .int 0), (6, .int 0), (5, .int 0), (4, .ref w54), (3, .ref w52), (2, .ref w34), (1, .ref w0), (0, .ref b)]) hx hb dL_law_353 hl (by decide) rfl (fun ls hl => ?_)
                  refine lv_aload_n hx hb dL_law_355 rfl (lv_at hl 5 rfl) ?_
                  have hPc := hP.sub (ws' := [(w34, .inr (12, [.int 0, .ref w35, .ref w36, .ref w37, .int (-1), .int (-1), .int 0, .ref w38, .ref w39, .ref w40, .ref w41, .ref w42, .ref w43, .ref w44, .ref w45, .ref w46, .int 0, .int 0, .null, .int 0, .int 45, .ref w47, .ref w48, .ref w49, .ref w50, .ref w51]))]) [2] rfl
                  have hKc := hK.sub (tys' := []) [] rfl
                  refine va_calli (va_runV (As := []) (rest := []) ⟨hx, hb, hml, hown, hq⟩ (c_thrown l hst tE adK adV dC dI w34 w35 w36 w37 w38 w39 w40 w41 w42 w43 w44 w45 w46 w47 w48 w49 w50 w51 0 H.size) (tcV 0 hq q_1264 q_12 q_1261 q_1262 q_1263 rfl rfl (by decide +kernel) ⟨Nat.le_of_ble_eq_true rfl, Nat.le_of_ble_eq_true rfl⟩) (preR.V (va_recv hK hP (ci := 12) (q0 := 2) rfl rfl) (preR.of hPc hKc ham hS hA)) rfl rfl hl.1 rfl (lv_room (Nat.le_of_ble_eq_true rfl)) dL_law_356 ⟨Nat.le_of_ble_eq_true rfl, Nat.le_of_ble_eq_true rfl⟩) hS (fun q _ h => hA q (Nat.le_trans hS.1 h)) (fun q h => hA q (Nat.le_trans hS.1 h)) (fun r_67 u t H1 locs ht hvm hw hB hz1 hk1 hS => ?_)
                  have hP : va_P (dC, dI) cls [(w54, .inl (w55, 1, .inr (.inr (.inr (.inl (fun _ => 0)))))), (w52, .inl (w53, 1, .inr (.inl (vp_updL (fun _ => 0) (0 : Int32).toNatClampNeg 0)))), (w34, .inr (12, [.int 0, .ref w35, .ref w36, .ref w37, .int (-1), .int (-1), .int 0, .ref w38, .ref w39, .ref w40, .ref w41, .ref w42, .ref w43, .ref w44, .ref w45, .ref w46, .int 0, .int 0, .null, .int 0, .int 45, .ref w47, .ref w48, .ref w49, .ref w50, .ref w51]))] H1 := ro_keep hP hk1
                  generalize H1 = H at hP hS ⊢
                  refine W.widen (k := 93) (n := 4919) (Nat.le_of_ble_eq_true rfl) (Nat.le_of_ble_eq_true rfl) ?_
                  have hw : r_67 = 0 := hw
                  subst hw
                  refine lv_iload hx hb dL_law_359 (lv_at hl 1 rfl) ?_
                  refine lv_icmp_eq (tgt := 366) hx hb dL_law_361 (by decide) (fun c_68 => ?_) (fun c_68 => ?_)
                  · refine lv_iload hx hb dL_law_366 (lv_at hl 1 rfl) ?_
                    refine lv_if_ne (tgt := 383) hx hb dL_law_368 (by decide) (fun c_69 => ?_) (fun c_69 => ?_)
                    · exact absurd c_69 (by decide)
                    · refine lv_aload_n hx hb dL_law_371 rfl (lv_at hl 4 rfl) ?_
                      refine lv_iconst (v := 0) hx hb dL_law_372 (by decide) ?_
                      refine va_lald hx hb hK hP 1 7 rfl rfl (by unfold vp_in; decide) dL_law_373 ?_
                      refine W.eq (congrArg (fun z : Int64 => F0 m 374 ls (.long z :: [])) pk_uLs) ?_
                      refine lv_iload hx hb dL_law_374 (lv_at hl 0 rfl) ?_
                      refine lv_i2l (v := 0) hx hb dL_law_376 (by decide) ?_
                      refine W.lcmp hx hb dL_law_377 ?_
                      refine W.eq (congrArg (fun z : Int32 => F0 m 378 ls (.int z :: [])) (by decide : lg_cmp 0 0 = 0)) ?_
                      refine lv_if_eq (tgt := 383) hx hb dL_law_378 (by decide) (fun c_70 => ?_) (fun c_70 => ?_)
                      · refine lv_goto (tgt := 2585) hx hb dL_law_383 (by decide) ?_
                        refine W.widen (k := 600002) (n := 7302232) (Nat.le_of_ble_eq_true rfl) (Nat.le_of_ble_eq_true rfl) ?_
                        exact law_end C0 hA hA2 hS (lv_sub hl [7, 2] rfl)
                      · exact absurd c_70 (by decide)
                  · exact absurd c_68 (by decide)
                · exact absurd c_61 c_65
        · refine lv_iconst (v := 1) hx hb dL_law_275 (by decide) ?_
          refine lv_goto (tgt := 280) hx hb dL_law_276 (by decide) ?_
          refine lv_aload_n hx hb dL_law_280 rfl (lv_at hl 2 rfl) ?_
          have hPc := hP.sub (ws' := [(w0, .inr (10, [.ref w1, .ref w2, .ref w3, .ref w4, .ref w5, .ref w6, .ref w7, .ref w8])), (w1, .inr (7, [.ref w9, .ref w10, .ref w11, .ref w12, .ref w13, .ref w14, .ref w15, .int 0])), (w9, .inl (w16, 8, .inl (fun _ => 0))), (w10, .inl (w17, 8, .inl (fun _ => 0))), (w11, .inl (w18, 8, .inl (fun _ => 0))), (w12, .inl (w19, 8, .inl (fun _ => 0))), (w13, .inl (w20, 8, .inl (fun _ => 0))), (w14, .inl (w21, 8, .inl (fun _ => 0))), (w15, .inl (w22, 8, .inl (fun _ => 0))), (w2, .inr (2, [.ref w23, .ref w24, .ref w25, .int 0, .int (-1), .int (-1)])), (w3, .inr (4, [.ref w26, .ref w27, .ref w28, .int 0, .int 0, .int 0, .int 45])), (w26, .inr (3, [.ref w1, .ref w2, .ref w29, .ref w30, .ref w31, .ref w32, .ref w33, .int 0, .int 0])), (w52, .inl (w53, 1, .inr (.inl (fun _ => 0))))]) [0, 1, 2, 3, 4, 5, 6, 7, 8, 9, 10, 11, 15] rfl
          have hKc := hK.sub (tys' := [(w16, .char), (w17, .char), (w18, .int), (w19, .boolean), (w20, .boolean), (w21, .boolean), (w22, .int), (w53, .long)]) [0, 1, 2, 3, 4, 5, 6, 7] rfl
          have hDc := hD.sub (ws' := [(w0, .inr (10, [.ref w1, .ref w2, .ref w3, .ref w4, .ref w5, .ref w6, .ref w7, .ref w8])), (w1, .inr (7, [.ref w9, .ref w10, .ref w11, .ref w12, .ref w13, .ref w14, .ref w15, .int 0])), (w9, .inl (w16, 8, .inl (fun _ => 0))), (w10, .inl (w17, 8, .inl (fun _ => 0))), (w11, .inl (w18, 8, .inl (fun _ => 0))), (w12, .inl (w19, 8, .inl (fun _ => 0))), (w13, .inl (w20, 8, .inl (fun _ => 0))), (w14, .inl (w21, 8, .inl (fun _ => 0))), (w15, .inl (w22, 8, .inl (fun _ => 0))), (w2, .inr (2, [.ref w23, .ref w24, .ref w25, .int 0, .int (-1), .int (-1)])), (w3, .inr (4, [.ref w26, .ref w27, .ref w28, .int 0, .int 0, .int 0, .int 45])), (w26, .inr (3, [.ref w1, .ref w2, .ref w29, .ref w30, .ref w31, .ref w32, .ref w33, .int 0, .int 0])), (w52, .inl (w53, 1, .inr (.inl (fun _ => 0))))]) [0, 1, 2, 3, 4, 5, 6, 7, 8, 9, 10, 11, 15] (by decide) rfl
          have hFc := va_free (wc := [(w0, .inr (10, [.ref w1, .ref w2, .ref w3, .ref w4, .ref w5, .ref w6, .ref w7, .ref w8])), (w1, .inr (7, [.ref w9, .ref w10, .ref w11, .ref w12, .ref w13, .ref w14, .ref w15, .int 0])), (w9, .inl (w16, 8, .inl (fun _ => 0))), (w10, .inl (w17, 8, .inl (fun _ => 0))), (w11, .inl (w18, 8, .inl (fun _ => 0))), (w12, .inl (w19, 8, .inl (fun _ => 0))), (w13, .inl (w20, 8, .inl (fun _ => 0))), (w14, .inl (w21, 8, .inl (fun _ => 0))), (w15, .inl (w22, 8, .inl (fun _ => 0))), (w2, .inr (2, [.ref w23, .ref w24, .ref w25, .int 0, .int (-1), .int (-1)])), (w3, .inr (4, [.ref w26, .ref w27, .ref w28, .int 0, .int 0, .int 0, .int 45])), (w26, .inr (3, [.ref w1, .ref w2, .ref w29, .ref w30, .ref w31, .ref w32, .ref w33, .int 0, .int 0])), (w52, .inl (w53, 1, .inr (.inl (fun _ => 0))))]) hD hS hA [0, 1, 2, 3, 4, 5, 6, 7, 8, 9, 10, 11, 15] rfl
          refine vx_calli (vx_runSX (As := [.ref w0, .int (((xs (1 : Int32).toNatClampNeg).toUInt32 % 65536).toInt32), .int (((xs (2 : Int32).toNatClampNeg).toUInt32 % 65536).toInt32), .int (xs (3 : Int32).toNatClampNeg), .int 1, .int 1, .int 1, .ref w52]) (rest := []) ⟨hx, hb, hml, hown, hq⟩ (c_L_role_ok l hst tE adK adV dC dI w0 w1 w2 w3 w4 w5 w6 w7 w8 w9 w10 w11 w12 w13 w14 w15 w16 w17 w18 w19 w20 w21 w22 w23 w24 w25 w26 w27 w28 w29 w30 w31 w32 w33 w52 w53 (fun _ => 0) (((xs (1 : Int32).toNatClampNeg).toUInt32 % 65536).toInt32) (((xs (2 : Int32).toNatClampNeg).toUInt32 % 65536).toInt32) (xs (3 : Int32).toNatClampNeg) 1 1 1 hok H.size) (tcSW 8 hq q_682 q_0 q_680 q_681 rfl rfl (by decide +kernel) ⟨Nat.le_of_ble_eq_true rfl, Nat.le_of_ble_eq_true rfl⟩) (pre.S (pre.of hPc hDc hKc ham hS hFc)) rfl rfl hl.1 rfl (lv_room (Nat.le_of_ble_eq_true rfl)) dL_law_281 ⟨Nat.le_of_ble_eq_true rfl, Nat.le_of_ble_eq_true rfl⟩) hS (fun q _ h => hFc q h) hFc (fun q _ h => hFc q h) (fun E ce q9 u t H1 locs ht hvm hpx hB hz1 hk1 hS hce hcv hcl => ?_) (fun r_71 u t H1 locs ht hvm hw hB hz1 hk1 hS => ?_)
          · exact (hB : False).elim
          · obtain ⟨hP1, hK1, hD1⟩ := hB
            rw [ht] at hP1
            have hK1 := va_K.moved hvm.symm hK1
            obtain ⟨hP, hD⟩ := va_join (wr := [(w34, .inr (12, [.int 0, .ref w35, .ref w36, .ref w37, .int (-1), .int (-1), .int 0, .ref w38, .ref w39, .ref w40, .ref w41, .ref w42, .ref w43, .ref w44, .ref w45, .ref w46, .int 0, .int 0, .null, .int 0, .int 45, .ref w47, .ref w48, .ref w49, .ref w50, .ref w51])), (w35, .inr (14, [.int 0, .ref tE, .int 0])), (w36, .inr (14, [.int 0, .ref tE, .int 0])), (w54, .inl (w55, 1, .inr (.inr (.inr (.inl (fun _ => 0))))))]) (w1 := [(w52, .inl (w53, 1, .inr (.inl (vp_updL (fun _ => 0) (0 : Int32).toNatClampNeg 0))))]) (wc := [(w0, .inr (10, [.ref w1, .ref w2, .ref w3, .ref w4, .ref w5, .ref w6, .ref w7, .ref w8])), (w1, .inr (7, [.ref w9, .ref w10, .ref w11, .ref w12, .ref w13, .ref w14, .ref w15, .int 0])), (w9, .inl (w16, 8, .inl (fun _ => 0))), (w10, .inl (w17, 8, .inl (fun _ => 0))), (w11, .inl (w18, 8, .inl (fun _ => 0))), (w12, .inl (w19, 8, .inl (fun _ => 0))), (w13, .inl (w20, 8, .inl (fun _ => 0))), (w14, .inl (w21, 8, .inl (fun _ => 0))), (w15, .inl (w22, 8, .inl (fun _ => 0))), (w2, .inr (2, [.ref w23, .ref w24, .ref w25, .int 0, .int (-1), .int (-1)])), (w3, .inr (4, [.ref w26, .ref w27, .ref w28, .int 0, .int 0, .int 0, .int 45])), (w26, .inr (3, [.ref w1, .ref w2, .ref w29, .ref w30, .ref w31, .ref w32, .ref w33, .int 0, .int 0])), (w52, .inl (w53, 1, .inr (.inl (fun _ => 0))))]) hP hD [0, 1, 2, 3, 4, 5, 6, 7, 8, 9, 10, 11, 15] [12, 13, 14, 16] rfl rfl (by decide) (by decide) hk1 hFc hP1 hD1
            have hK := (hK.sub (tys' := [(w16, .char), (w17, .char), (w18, .int), (w19, .boolean), (w20, .boolean), (w21, .boolean), (w22, .int), (w53, .long), (w55, .double)]) [0, 1, 2, 3, 4, 5, 6, 7, 8] rfl).app hK1
            generalize H1 = H at hP hS ⊢
            have hP : va_P (dC, dI) cls [(w34, .inr (12, [.int 0, .ref w35, .ref w36, .ref w37, .int (-1), .int (-1), .int 0, .ref w38, .ref w39, .ref w40, .ref w41, .ref w42, .ref w43, .ref w44, .ref w45, .ref w46, .int 0, .int 0, .null, .int 0, .int 45, .ref w47, .ref w48, .ref w49, .ref w50, .ref w51])), (w35, .inr (14, [.int 0, .ref tE, .int 0])), (w36, .inr (14, [.int 0, .ref tE, .int 0])), (w54, .inl (w55, 1, .inr (.inr (.inr (.inl (fun _ => 0)))))), (w52, .inl (w53, 1, .inr (.inl (vp_updL (fun _ => 0) (0 : Int32).toNatClampNeg 0))))] H := hP
            have hD : va_D A [(w34, .inr (12, [.int 0, .ref w35, .ref w36, .ref w37, .int (-1), .int (-1), .int 0, .ref w38, .ref w39, .ref w40, .ref w41, .ref w42, .ref w43, .ref w44, .ref w45, .ref w46, .int 0, .int 0, .null, .int 0, .int 45, .ref w47, .ref w48, .ref w49, .ref w50, .ref w51])), (w35, .inr (14, [.int 0, .ref tE, .int 0])), (w36, .inr (14, [.int 0, .ref tE, .int 0])), (w54, .inl (w55, 1, .inr (.inr (.inr (.inl (fun _ => 0)))))), (w52, .inl (w53, 1, .inr (.inl (vp_updL (fun _ => 0) (0 : Int32).toNatClampNeg 0))))] := hD
            have hK : va_K (dC, dI) cls [(w16, .char), (w17, .char), (w18, .int), (w19, .boolean), (w20, .boolean), (w21, .boolean), (w22, .int), (w53, .long), (w55, .double), (w53, .long)] s := hK
            refine W.widen (k := 91) (n := 4902) (Nat.le_of_ble_eq_true rfl) (Nat.le_of_ble_eq_true rfl) ?_
            have hw : r_71 = 0 := hw
            subst hw
            refine lv_istore (lv' := [(6, .int 0), (5, .int 0), (4, .ref w54), (3, .ref w52), (2, .ref w34), (1, .ref w0), (0, .ref b)]) hx hb dL_law_284 hl (by decide) rfl (fun ls hl => ?_)
            refine lv_aload_n hx hb dL_law_286 rfl (lv_at hl 4 rfl) ?_
            refine lv_aload_n hx hb dL_law_287 rfl (lv_at hl 6 rfl) ?_
            refine lv_iload hx hb dL_law_288 (lv_at hl 1 rfl) ?_
            refine lv_iconst (v := 1) hx hb dL_law_290 (by decide) ?_
            refine lv_iadd hx hb dL_law_291 ?_
            refine W.eq (congrArg (fun z : Int32 => F0 m 292 ls (.int z :: [.ref b, .ref w34])) (by decide : (0 + 1 : Int32) = 1)) ?_
            refine va_sld hx hb hX hbl hbA hS (i := 1) (by unfold vp_in; decide) dL_law_292 ?_
            refine lv_i2c (v := ((xs (1 : Int32).toNatClampNeg).toUInt32 % 65536).toInt32) hx hb dL_law_293 rfl ?_
            refine lv_aload_n hx hb dL_law_294 rfl (lv_at hl 6 rfl) ?_
            refine lv_iload hx hb dL_law_295 (lv_at hl 1 rfl) ?_
            refine lv_iconst (v := 2) hx hb dL_law_297 (by decide) ?_
            refine lv_iadd hx hb dL_law_298 ?_
            refine W.eq (congrArg (fun z : Int32 => F0 m 299 ls (.int z :: [.ref b, .int (((xs (1 : Int32).toNatClampNeg).toUInt32 % 65536).toInt32), .ref w34])) (by decide : (0 + 2 : Int32) = 2)) ?_
            refine va_sld hx hb hX hbl hbA hS (i := 2) (by unfold vp_in; decide) dL_law_299 ?_
            refine lv_i2c (v := ((xs (2 : Int32).toNatClampNeg).toUInt32 % 65536).toInt32) hx hb dL_law_300 rfl ?_
            refine lv_aload_n hx hb dL_law_301 rfl (lv_at hl 6 rfl) ?_
            refine lv_iload hx hb dL_law_302 (lv_at hl 1 rfl) ?_
            refine lv_iconst (v := 3) hx hb dL_law_304 (by decide) ?_
            refine lv_iadd hx hb dL_law_305 ?_
            refine W.eq (congrArg (fun z : Int32 => F0 m 306 ls (.int z :: [.ref b, .int (((xs (2 : Int32).toNatClampNeg).toUInt32 % 65536).toInt32), .int (((xs (1 : Int32).toNatClampNeg).toUInt32 % 65536).toInt32), .ref w34])) (by decide : (0 + 3 : Int32) = 3)) ?_
            refine va_sld hx hb hX hbl hbA hS (i := 3) (by unfold vp_in; decide) dL_law_306 ?_
            refine lv_aload_n hx hb dL_law_307 rfl (lv_at hl 6 rfl) ?_
            refine lv_iload hx hb dL_law_308 (lv_at hl 1 rfl) ?_
            refine lv_iconst (v := 4) hx hb dL_law_310 (by decide) ?_
            refine lv_iadd hx hb dL_law_311 ?_
            refine W.eq (congrArg (fun z : Int32 => F0 m 312 ls (.int z :: [.ref b, .int (xs (3 : Int32).toNatClampNeg), .int (((xs (2 : Int32).toNatClampNeg).toUInt32 % 65536).toInt32), .int (((xs (1 : Int32).toNatClampNeg).toUInt32 % 65536).toInt32), .ref w34])) (by decide : (0 + 4 : Int32) = 4)) ?_
            refine va_sld hx hb hX hbl hbA hS (i := 4) (by unfold vp_in; decide) dL_law_312 ?_
            refine lv_if_eq (tgt := 320) hx hb dL_law_313 (by decide) (fun c_72 => ?_) (fun c_72 => ?_)
            · exact absurd c_72 c_1
            · refine lv_iconst (v := 1) hx hb dL_law_316 (by decide) ?_
              refine lv_goto (tgt := 321) hx hb dL_law_317 (by decide) ?_
              refine lv_aload_n hx hb dL_law_321 rfl (lv_at hl 6 rfl) ?_
              refine lv_iload hx hb dL_law_322 (lv_at hl 1 rfl) ?_
              refine lv_iconst (v := 5) hx hb dL_law_324 (by decide) ?_
              refine lv_iadd hx hb dL_law_325 ?_
              refine W.eq (congrArg (fun z : Int32 => F0 m 326 ls (.int z :: [.ref b, .int 1, .int (xs (3 : Int32).toNatClampNeg), .int (((xs (2 : Int32).toNatClampNeg).toUInt32 % 65536).toInt32), .int (((xs (1 : Int32).toNatClampNeg).toUInt32 % 65536).toInt32), .ref w34])) (by decide : (0 + 5 : Int32) = 5)) ?_
              refine va_sld hx hb hX hbl hbA hS (i := 5) (by unfold vp_in; decide) dL_law_326 ?_
              refine lv_if_eq (tgt := 334) hx hb dL_law_327 (by decide) (fun c_73 => ?_) (fun c_73 => ?_)
              · exact absurd c_73 c_41
              · refine lv_iconst (v := 1) hx hb dL_law_330 (by decide) ?_
                refine lv_goto (tgt := 335) hx hb dL_law_331 (by decide) ?_
                refine lv_aload_n hx hb dL_law_335 rfl (lv_at hl 6 rfl) ?_
                refine lv_iload hx hb dL_law_336 (lv_at hl 1 rfl) ?_
                refine lv_bipush (v := 6) hx hb dL_law_338 (by decide) ?_
                refine lv_iadd hx hb dL_law_340 ?_
                refine W.eq (congrArg (fun z : Int32 => F0 m 341 ls (.int z :: [.ref b, .int 1, .int 1, .int (xs (3 : Int32).toNatClampNeg), .int (((xs (2 : Int32).toNatClampNeg).toUInt32 % 65536).toInt32), .int (((xs (1 : Int32).toNatClampNeg).toUInt32 % 65536).toInt32), .ref w34])) (by decide : (0 + 6 : Int32) = 6)) ?_
                refine va_sld hx hb hX hbl hbA hS (i := 6) (by unfold vp_in; decide) dL_law_341 ?_
                refine lv_if_eq (tgt := 349) hx hb dL_law_342 (by decide) (fun c_74 => ?_) (fun c_74 => ?_)
                · exact absurd c_74 c_61
                · refine lv_iconst (v := 1) hx hb dL_law_345 (by decide) ?_
                  refine lv_goto (tgt := 350) hx hb dL_law_346 (by decide) ?_
                  have hPc := hP.sub (ws' := [(w34, .inr (12, [.int 0, .ref w35, .ref w36, .ref w37, .int (-1), .int (-1), .int 0, .ref w38, .ref w39, .ref w40, .ref w41, .ref w42, .ref w43, .ref w44, .ref w45, .ref w46, .int 0, .int 0, .null, .int 0, .int 45, .ref w47, .ref w48, .ref w49, .ref w50, .ref w51])), (w35, .inr (14, [.int 0, .ref tE, .int 0])), (w36, .inr (14, [.int 0, .ref tE, .int 0]))]) [0, 1, 2] rfl
                  have hKc := hK.sub (tys' := []) [] rfl
                  have hDc := hD.sub (ws' := [(w34, .inr (12, [.int 0, .ref w35, .ref w36, .ref w37, .int (-1), .int (-1), .int 0, .ref w38, .ref w39, .ref w40, .ref w41, .ref w42, .ref w43, .ref w44, .ref w45, .ref w46, .int 0, .int 0, .null, .int 0, .int 45, .ref w47, .ref w48, .ref w49, .ref w50, .ref w51])), (w35, .inr (14, [.int 0, .ref tE, .int 0])), (w36, .inr (14, [.int 0, .ref tE, .int 0]))]) [0, 1, 2] (by decide) rfl
                  have hFc := va_free (wc := [(w34, .inr (12, [.int 0, .ref w35, .ref w36, .ref w37, .int (-1), .int (-1), .int 0, .ref w38, .ref w39, .ref w40, .ref w41, .ref w42, .ref w43, .ref w44, .ref w45, .ref w46, .int 0, .int 0, .null, .int 0, .int 45, .ref w47, .ref w48, .ref w49, .ref w50, .ref w51])), (w35, .inr (14, [.int 0, .ref tE, .int 0])), (w36, .inr (14, [.int 0, .ref tE, .int 0]))]) hD hS hA [0, 1, 2] rfl
                  refine va_calli (va_runV (As := [.int (((xs (1 : Int32).toNatClampNeg).toUInt32 % 65536).toInt32), .int (((xs (2 : Int32).toNatClampNeg).toUInt32 % 65536).toInt32), .int (xs (3 : Int32).toNatClampNeg), .int 1, .int 1, .int 1]) (rest := []) ⟨hx, hb, hml, hown, hq⟩ (c_M_role_ok l hst tE adK adV dC dI w34 w35 w36 w37 w38 w39 w40 w41 w42 w43 w44 w45 w46 w47 w48 w49 w50 w51 0 (((xs (1 : Int32).toNatClampNeg).toUInt32 % 65536).toInt32) (((xs (2 : Int32).toNatClampNeg).toUInt32 % 65536).toInt32) (xs (3 : Int32).toNatClampNeg) 1 1 1 hok (Or.inr rfl) (Or.inr rfl) (Or.inr rfl) H.size) (tcV 6 hq q_1386 q_12 q_1383 q_1384 q_1385 rfl rfl (by decide +kernel) ⟨Nat.le_of_ble_eq_true rfl, Nat.le_of_ble_eq_true rfl⟩) (pre.V (va_recv hK hP (ci := 12) (q0 := 0) rfl rfl) (pre.of hPc hDc hKc ham hS hFc)) rfl rfl hl.1 rfl (lv_room (Nat.le_of_ble_eq_true rfl)) dL_law_350 ⟨Nat.le_of_ble_eq_true rfl, Nat.le_of_ble_eq_true rfl⟩) hS (fun q _ h => hFc q h) hFc (fun r_75 u t H1 locs ht hvm hw hB hz1 hk1 hS => ?_)
                  obtain ⟨hP1, hK1, hD1⟩ := hB
                  rw [ht] at hP1
                  have hK1 := va_K.moved hvm.symm hK1
                  obtain ⟨hP, hD⟩ := va_join (wr := [(w54, .inl (w55, 1, .inr (.inr (.inr (.inl (fun _ => 0)))))), (w52, .inl (w53, 1, .inr (.inl (vp_updL (fun _ => 0) (0 : Int32).toNatClampNeg 0))))]) (w1 := [(w34, .inr (12, [.int 0, .ref w35, .ref w36, .ref w37, .int (-1), .int (-1), .int 0, .ref w38, .ref w39, .ref w40, .ref w41, .ref w42, .ref w43, .ref w44, .ref w45, .ref w46, .int 0, .int 0, .null, .int 0, .int 45, .ref w47, .ref w48, .ref w49, .ref w50, .ref w51]))]) (wc := [(w34, .inr (12, [.int 0, .ref w35, .ref w36, .ref w37, .int (-1), .int (-1), .int 0, .ref w38, .ref w39, .ref w40, .ref w41, .ref w42, .ref w43, .ref w44, .ref w45, .ref w46, .int 0, .int 0, .null, .int 0, .int 45, .ref w47, .ref w48, .ref w49, .ref w50, .ref w51])), (w35, .inr (14, [.int 0, .ref tE, .int 0])), (w36, .inr (14, [.int 0, .ref tE, .int 0]))]) hP hD [0, 1, 2] [3, 4] rfl rfl (by decide) (by decide) hk1 hFc hP1 hD1
                  have hK := (hK.sub (tys' := [(w16, .char), (w17, .char), (w18, .int), (w19, .boolean), (w20, .boolean), (w21, .boolean), (w22, .int), (w53, .long), (w55, .double), (w53, .long)]) [0, 1, 2, 3, 4, 5, 6, 7, 8, 9] rfl).app hK1
                  generalize H1 = H at hP hS ⊢
                  have hP : va_P (dC, dI) cls [(w54, .inl (w55, 1, .inr (.inr (.inr (.inl (fun _ => 0)))))), (w52, .inl (w53, 1, .inr (.inl (vp_updL (fun _ => 0) (0 : Int32).toNatClampNeg 0)))), (w34, .inr (12, [.int 0, .ref w35, .ref w36, .ref w37, .int (-1), .int (-1), .int 0, .ref w38, .ref w39, .ref w40, .ref w41, .ref w42, .ref w43, .ref w44, .ref w45, .ref w46, .int 0, .int 0, .null, .int 0, .int 45, .ref w47, .ref w48, .ref w49, .ref w50, .ref w51]))] H := hP
                  have hD : va_D A [(w54, .inl (w55, 1, .inr (.inr (.inr (.inl (fun _ => 0)))))), (w52, .inl (w53, 1, .inr (.inl (vp_updL (fun _ => 0) (0 : Int32).toNatClampNeg 0)))), (w34, .inr (12, [.int 0, .ref w35, .ref w36, .ref w37, .int (-1), .int (-1), .int 0, .ref w38, .ref w39, .ref w40, .ref w41, .ref w42, .ref w43, .ref w44, .ref w45, .ref w46, .int 0, .int 0, .null, .int 0, .int 45, .ref w47, .ref w48, .ref w49, .ref w50, .ref w51]))] := hD
                  have hK : va_K (dC, dI) cls [(w16, .char), (w17, .char), (w18, .int), (w19, .boolean), (w20, .boolean), (w21, .boolean), (w22, .int), (w53, .long), (w55, .double), (w53, .long)] s := hK
                  refine W.widen (k := 93) (n := 4919) (Nat.le_of_ble_eq_true rfl) (Nat.le_of_ble_eq_true rfl) ?_
                  have hw : r_75 = 0 := hw
                  subst hw
                  refine lv_istore (lv' := [(7, .int 0), (6, .int 0), (5, .int 0), (4, .ref w54), (3, .ref w52), (2, .ref w34), (1, .ref w0), (0, .ref b)]) hx hb dL_law_353 hl (by decide) rfl (fun ls hl => ?_)
                  refine lv_aload_n hx hb dL_law_355 rfl (lv_at hl 5 rfl) ?_
                  have hPc := hP.sub (ws' := [(w34, .inr (12, [.int 0, .ref w35, .ref w36, .ref w37, .int (-1), .int (-1), .int 0, .ref w38, .ref w39, .ref w40, .ref w41, .ref w42, .ref w43, .ref w44, .ref w45, .ref w46, .int 0, .int 0, .null, .int 0, .int 45, .ref w47, .ref w48, .ref w49, .ref w50, .ref w51]))]) [2] rfl
                  have hKc := hK.sub (tys' := []) [] rfl
                  refine va_calli (va_runV (As := []) (rest := []) ⟨hx, hb, hml, hown, hq⟩ (c_thrown l hst tE adK adV dC dI w34 w35 w36 w37 w38 w39 w40 w41 w42 w43 w44 w45 w46 w47 w48 w49 w50 w51 0 H.size) (tcV 0 hq q_1264 q_12 q_1261 q_1262 q_1263 rfl rfl (by decide +kernel) ⟨Nat.le_of_ble_eq_true rfl, Nat.le_of_ble_eq_true rfl⟩) (preR.V (va_recv hK hP (ci := 12) (q0 := 2) rfl rfl) (preR.of hPc hKc ham hS hA)) rfl rfl hl.1 rfl (lv_room (Nat.le_of_ble_eq_true rfl)) dL_law_356 ⟨Nat.le_of_ble_eq_true rfl, Nat.le_of_ble_eq_true rfl⟩) hS (fun q _ h => hA q (Nat.le_trans hS.1 h)) (fun q h => hA q (Nat.le_trans hS.1 h)) (fun r_76 u t H1 locs ht hvm hw hB hz1 hk1 hS => ?_)
                  have hP : va_P (dC, dI) cls [(w54, .inl (w55, 1, .inr (.inr (.inr (.inl (fun _ => 0)))))), (w52, .inl (w53, 1, .inr (.inl (vp_updL (fun _ => 0) (0 : Int32).toNatClampNeg 0)))), (w34, .inr (12, [.int 0, .ref w35, .ref w36, .ref w37, .int (-1), .int (-1), .int 0, .ref w38, .ref w39, .ref w40, .ref w41, .ref w42, .ref w43, .ref w44, .ref w45, .ref w46, .int 0, .int 0, .null, .int 0, .int 45, .ref w47, .ref w48, .ref w49, .ref w50, .ref w51]))] H1 := ro_keep hP hk1
                  generalize H1 = H at hP hS ⊢
                  refine W.widen (k := 93) (n := 4919) (Nat.le_of_ble_eq_true rfl) (Nat.le_of_ble_eq_true rfl) ?_
                  have hw : r_76 = 0 := hw
                  subst hw
                  refine lv_iload hx hb dL_law_359 (lv_at hl 1 rfl) ?_
                  refine lv_icmp_eq (tgt := 366) hx hb dL_law_361 (by decide) (fun c_77 => ?_) (fun c_77 => ?_)
                  · refine lv_iload hx hb dL_law_366 (lv_at hl 1 rfl) ?_
                    refine lv_if_ne (tgt := 383) hx hb dL_law_368 (by decide) (fun c_78 => ?_) (fun c_78 => ?_)
                    · exact absurd c_78 (by decide)
                    · refine lv_aload_n hx hb dL_law_371 rfl (lv_at hl 4 rfl) ?_
                      refine lv_iconst (v := 0) hx hb dL_law_372 (by decide) ?_
                      refine va_lald hx hb hK hP 1 7 rfl rfl (by unfold vp_in; decide) dL_law_373 ?_
                      refine W.eq (congrArg (fun z : Int64 => F0 m 374 ls (.long z :: [])) pk_uLs) ?_
                      refine lv_iload hx hb dL_law_374 (lv_at hl 0 rfl) ?_
                      refine lv_i2l (v := 0) hx hb dL_law_376 (by decide) ?_
                      refine W.lcmp hx hb dL_law_377 ?_
                      refine W.eq (congrArg (fun z : Int32 => F0 m 378 ls (.int z :: [])) (by decide : lg_cmp 0 0 = 0)) ?_
                      refine lv_if_eq (tgt := 383) hx hb dL_law_378 (by decide) (fun c_79 => ?_) (fun c_79 => ?_)
                      · refine lv_goto (tgt := 2585) hx hb dL_law_383 (by decide) ?_
                        refine W.widen (k := 600002) (n := 7302232) (Nat.le_of_ble_eq_true rfl) (Nat.le_of_ble_eq_true rfl) ?_
                        exact law_end C0 hA hA2 hS (lv_sub hl [7, 2] rfl)
                      · exact absurd c_79 (by decide)
                  · exact absurd c_77 (by decide)
  · refine lv_aload_n hx hb dL_law_216 rfl (lv_at hl 4 rfl) ?_
    refine lv_aload_n hx hb dL_law_217 rfl (lv_at hl 5 rfl) ?_
    refine lv_iload hx hb dL_law_218 (lv_at hl 0 rfl) ?_
    refine lv_iconst (v := 1) hx hb dL_law_220 (by decide) ?_
    refine lv_iadd hx hb dL_law_221 ?_
    refine W.eq (congrArg (fun z : Int32 => F0 m 222 ls (.int z :: [.ref b, .ref w0])) (by decide : (0 + 1 : Int32) = 1)) ?_
    refine va_sld hx hb hX hbl hbA hS (i := 1) (by unfold vp_in; decide) dL_law_222 ?_
    refine lv_i2c (v := ((xs (1 : Int32).toNatClampNeg).toUInt32 % 65536).toInt32) hx hb dL_law_223 rfl ?_
    refine lv_aload_n hx hb dL_law_224 rfl (lv_at hl 5 rfl) ?_
    refine lv_iload hx hb dL_law_225 (lv_at hl 0 rfl) ?_
    refine lv_iconst (v := 2) hx hb dL_law_227 (by decide) ?_
    refine lv_iadd hx hb dL_law_228 ?_
    refine W.eq (congrArg (fun z : Int32 => F0 m 229 ls (.int z :: [.ref b, .int (((xs (1 : Int32).toNatClampNeg).toUInt32 % 65536).toInt32), .ref w0])) (by decide : (0 + 2 : Int32) = 2)) ?_
    refine va_sld hx hb hX hbl hbA hS (i := 2) (by unfold vp_in; decide) dL_law_229 ?_
    refine lv_i2c (v := ((xs (2 : Int32).toNatClampNeg).toUInt32 % 65536).toInt32) hx hb dL_law_230 rfl ?_
    refine lv_aload_n hx hb dL_law_231 rfl (lv_at hl 5 rfl) ?_
    refine lv_iload hx hb dL_law_232 (lv_at hl 0 rfl) ?_
    refine lv_iconst (v := 3) hx hb dL_law_234 (by decide) ?_
    refine lv_iadd hx hb dL_law_235 ?_
    refine W.eq (congrArg (fun z : Int32 => F0 m 236 ls (.int z :: [.ref b, .int (((xs (2 : Int32).toNatClampNeg).toUInt32 % 65536).toInt32), .int (((xs (1 : Int32).toNatClampNeg).toUInt32 % 65536).toInt32), .ref w0])) (by decide : (0 + 3 : Int32) = 3)) ?_
    refine va_sld hx hb hX hbl hbA hS (i := 3) (by unfold vp_in; decide) dL_law_236 ?_
    refine lv_aload_n hx hb dL_law_237 rfl (lv_at hl 5 rfl) ?_
    refine lv_iload hx hb dL_law_238 (lv_at hl 0 rfl) ?_
    refine lv_iconst (v := 4) hx hb dL_law_240 (by decide) ?_
    refine lv_iadd hx hb dL_law_241 ?_
    refine W.eq (congrArg (fun z : Int32 => F0 m 242 ls (.int z :: [.ref b, .int (xs (3 : Int32).toNatClampNeg), .int (((xs (2 : Int32).toNatClampNeg).toUInt32 % 65536).toInt32), .int (((xs (1 : Int32).toNatClampNeg).toUInt32 % 65536).toInt32), .ref w0])) (by decide : (0 + 4 : Int32) = 4)) ?_
    refine va_sld hx hb hX hbl hbA hS (i := 4) (by unfold vp_in; decide) dL_law_242 ?_
    refine lv_if_eq (tgt := 250) hx hb dL_law_243 (by decide) (fun c_1 => ?_) (fun c_1 => ?_)
    · refine lv_iconst (v := 0) hx hb dL_law_250 (by decide) ?_
      refine lv_aload_n hx hb dL_law_251 rfl (lv_at hl 5 rfl) ?_
      refine lv_iload hx hb dL_law_252 (lv_at hl 0 rfl) ?_
      refine lv_iconst (v := 5) hx hb dL_law_254 (by decide) ?_
      refine lv_iadd hx hb dL_law_255 ?_
      refine W.eq (congrArg (fun z : Int32 => F0 m 256 ls (.int z :: [.ref b, .int 0, .int (xs (3 : Int32).toNatClampNeg), .int (((xs (2 : Int32).toNatClampNeg).toUInt32 % 65536).toInt32), .int (((xs (1 : Int32).toNatClampNeg).toUInt32 % 65536).toInt32), .ref w0])) (by decide : (0 + 5 : Int32) = 5)) ?_
      refine va_sld hx hb hX hbl hbA hS (i := 5) (by unfold vp_in; decide) dL_law_256 ?_
      refine lv_if_eq (tgt := 264) hx hb dL_law_257 (by decide) (fun c_2 => ?_) (fun c_2 => ?_)
      · refine lv_iconst (v := 0) hx hb dL_law_264 (by decide) ?_
        refine lv_aload_n hx hb dL_law_265 rfl (lv_at hl 5 rfl) ?_
        refine lv_iload hx hb dL_law_266 (lv_at hl 0 rfl) ?_
        refine lv_bipush (v := 6) hx hb dL_law_268 (by decide) ?_
        refine lv_iadd hx hb dL_law_270 ?_
        refine W.eq (congrArg (fun z : Int32 => F0 m 271 ls (.int z :: [.ref b, .int 0, .int 0, .int (xs (3 : Int32).toNatClampNeg), .int (((xs (2 : Int32).toNatClampNeg).toUInt32 % 65536).toInt32), .int (((xs (1 : Int32).toNatClampNeg).toUInt32 % 65536).toInt32), .ref w0])) (by decide : (0 + 6 : Int32) = 6)) ?_
        refine va_sld hx hb hX hbl hbA hS (i := 6) (by unfold vp_in; decide) dL_law_271 ?_
        refine lv_if_eq (tgt := 279) hx hb dL_law_272 (by decide) (fun c_3 => ?_) (fun c_3 => ?_)
        · refine lv_iconst (v := 0) hx hb dL_law_279 (by decide) ?_
          refine lv_aload_n hx hb dL_law_280 rfl (lv_at hl 2 rfl) ?_
          have hPc := hP.sub (ws' := [(w0, .inr (10, [.ref w1, .ref w2, .ref w3, .ref w4, .ref w5, .ref w6, .ref w7, .ref w8])), (w1, .inr (7, [.ref w9, .ref w10, .ref w11, .ref w12, .ref w13, .ref w14, .ref w15, .int 0])), (w2, .inr (2, [.ref w23, .ref w24, .ref w25, .int 0, .int (-1), .int (-1)])), (w3, .inr (4, [.ref w26, .ref w27, .ref w28, .int 0, .int 0, .int 0, .int 45])), (w26, .inr (3, [.ref w1, .ref w2, .ref w29, .ref w30, .ref w31, .ref w32, .ref w33, .int 0, .int 0]))]) [0, 1, 9, 10, 11] rfl
          have hKc := hK.sub (tys' := []) [] rfl
          refine vx_calli (vx_runSX (As := [.ref w0, .int (((xs (1 : Int32).toNatClampNeg).toUInt32 % 65536).toInt32), .int (((xs (2 : Int32).toNatClampNeg).toUInt32 % 65536).toInt32), .int (xs (3 : Int32).toNatClampNeg), .int 0, .int 0, .int 0, .ref w52]) (rest := []) ⟨hx, hb, hml, hown, hq⟩ (c_L_role_no l hst tE adK adV dC dI w0 w1 w2 w3 w4 w5 w6 w7 w8 w9 w10 w11 w12 w13 w14 w15 w23 w24 w25 w26 w27 w28 w29 w30 w31 w32 w33 w52 (((xs (1 : Int32).toNatClampNeg).toUInt32 % 65536).toInt32) (((xs (2 : Int32).toNatClampNeg).toUInt32 % 65536).toInt32) (xs (3 : Int32).toNatClampNeg) 0 0 0 hok H.size) (tcSW 8 hq q_682 q_0 q_680 q_681 rfl rfl (by decide +kernel) ⟨Nat.le_of_ble_eq_true rfl, Nat.le_of_ble_eq_true rfl⟩) (preR.S (preR.of hPc hKc ham hS hA)) rfl rfl hl.1 rfl (lv_room (Nat.le_of_ble_eq_true rfl)) dL_law_281 ⟨Nat.le_of_ble_eq_true rfl, Nat.le_of_ble_eq_true rfl⟩) hS (fun q _ h => hA q (Nat.le_trans hS.1 h)) (fun q h => hA q (Nat.le_trans hS.1 h)) (fun q _ h => hA q (Nat.le_trans hS.1 h)) (fun E ce q9 u t H1 locs ht hvm hpx hB hz1 hk1 hS hce hcv hcl => ?_) (fun r_4 u t H1 locs ht hvm hw hB hz1 hk1 hS => ?_)
          · exact (hB : False).elim
          · have hP : va_P (dC, dI) cls [(w0, .inr (10, [.ref w1, .ref w2, .ref w3, .ref w4, .ref w5, .ref w6, .ref w7, .ref w8])), (w1, .inr (7, [.ref w9, .ref w10, .ref w11, .ref w12, .ref w13, .ref w14, .ref w15, .int 0])), (w9, .inl (w16, 8, .inl (fun _ => 0))), (w10, .inl (w17, 8, .inl (fun _ => 0))), (w11, .inl (w18, 8, .inl (fun _ => 0))), (w12, .inl (w19, 8, .inl (fun _ => 0))), (w13, .inl (w20, 8, .inl (fun _ => 0))), (w14, .inl (w21, 8, .inl (fun _ => 0))), (w15, .inl (w22, 8, .inl (fun _ => 0))), (w2, .inr (2, [.ref w23, .ref w24, .ref w25, .int 0, .int (-1), .int (-1)])), (w3, .inr (4, [.ref w26, .ref w27, .ref w28, .int 0, .int 0, .int 0, .int 45])), (w26, .inr (3, [.ref w1, .ref w2, .ref w29, .ref w30, .ref w31, .ref w32, .ref w33, .int 0, .int 0])), (w34, .inr (12, [.int 0, .ref w35, .ref w36, .ref w37, .int (-1), .int (-1), .int 0, .ref w38, .ref w39, .ref w40, .ref w41, .ref w42, .ref w43, .ref w44, .ref w45, .ref w46, .int 0, .int 0, .null, .int 0, .int 45, .ref w47, .ref w48, .ref w49, .ref w50, .ref w51])), (w35, .inr (14, [.int 0, .ref tE, .int 0])), (w36, .inr (14, [.int 0, .ref tE, .int 0])), (w52, .inl (w53, 1, .inr (.inl (fun _ => 0)))), (w54, .inl (w55, 1, .inr (.inr (.inr (.inl (fun _ => 0))))))] H1 := ro_keep hP hk1
            generalize H1 = H at hP hS ⊢
            refine W.widen (k := 92) (n := 4908) (Nat.le_of_ble_eq_true rfl) (Nat.le_of_ble_eq_true rfl) ?_
            have hw : r_4 = 1 := hw
            subst hw
            refine lv_istore (lv' := [(6, .int 1), (5, .int 0), (4, .ref w54), (3, .ref w52), (2, .ref w34), (1, .ref w0), (0, .ref b)]) hx hb dL_law_284 hl (by decide) rfl (fun ls hl => ?_)
            refine lv_aload_n hx hb dL_law_286 rfl (lv_at hl 4 rfl) ?_
            refine lv_aload_n hx hb dL_law_287 rfl (lv_at hl 6 rfl) ?_
            refine lv_iload hx hb dL_law_288 (lv_at hl 1 rfl) ?_
            refine lv_iconst (v := 1) hx hb dL_law_290 (by decide) ?_
            refine lv_iadd hx hb dL_law_291 ?_
            refine W.eq (congrArg (fun z : Int32 => F0 m 292 ls (.int z :: [.ref b, .ref w34])) (by decide : (0 + 1 : Int32) = 1)) ?_
            refine va_sld hx hb hX hbl hbA hS (i := 1) (by unfold vp_in; decide) dL_law_292 ?_
            refine lv_i2c (v := ((xs (1 : Int32).toNatClampNeg).toUInt32 % 65536).toInt32) hx hb dL_law_293 rfl ?_
            refine lv_aload_n hx hb dL_law_294 rfl (lv_at hl 6 rfl) ?_
            refine lv_iload hx hb dL_law_295 (lv_at hl 1 rfl) ?_
            refine lv_iconst (v := 2) hx hb dL_law_297 (by decide) ?_
            refine lv_iadd hx hb dL_law_298 ?_
            refine W.eq (congrArg (fun z : Int32 => F0 m 299 ls (.int z :: [.ref b, .int (((xs (1 : Int32).toNatClampNeg).toUInt32 % 65536).toInt32), .ref w34])) (by decide : (0 + 2 : Int32) = 2)) ?_
            refine va_sld hx hb hX hbl hbA hS (i := 2) (by unfold vp_in; decide) dL_law_299 ?_
            refine lv_i2c (v := ((xs (2 : Int32).toNatClampNeg).toUInt32 % 65536).toInt32) hx hb dL_law_300 rfl ?_
            refine lv_aload_n hx hb dL_law_301 rfl (lv_at hl 6 rfl) ?_
            refine lv_iload hx hb dL_law_302 (lv_at hl 1 rfl) ?_
            refine lv_iconst (v := 3) hx hb dL_law_304 (by decide) ?_
            refine lv_iadd hx hb dL_law_305 ?_
            refine W.eq (congrArg (fun z : Int32 => F0 m 306 ls (.int z :: [.ref b, .int (((xs (2 : Int32).toNatClampNeg).toUInt32 % 65536).toInt32), .int (((xs (1 : Int32).toNatClampNeg).toUInt32 % 65536).toInt32), .ref w34])) (by decide : (0 + 3 : Int32) = 3)) ?_
            refine va_sld hx hb hX hbl hbA hS (i := 3) (by unfold vp_in; decide) dL_law_306 ?_
            refine lv_aload_n hx hb dL_law_307 rfl (lv_at hl 6 rfl) ?_
            refine lv_iload hx hb dL_law_308 (lv_at hl 1 rfl) ?_
            refine lv_iconst (v := 4) hx hb dL_law_310 (by decide) ?_
            refine lv_iadd hx hb dL_law_311 ?_
            refine W.eq (congrArg (fun z : Int32 => F0 m 312 ls (.int z :: [.ref b, .int (xs (3 : Int32).toNatClampNeg), .int (((xs (2 : Int32).toNatClampNeg).toUInt32 % 65536).toInt32), .int (((xs (1 : Int32).toNatClampNeg).toUInt32 % 65536).toInt32), .ref w34])) (by decide : (0 + 4 : Int32) = 4)) ?_
            refine va_sld hx hb hX hbl hbA hS (i := 4) (by unfold vp_in; decide) dL_law_312 ?_
            refine lv_if_eq (tgt := 320) hx hb dL_law_313 (by decide) (fun c_5 => ?_) (fun c_5 => ?_)
            · refine lv_iconst (v := 0) hx hb dL_law_320 (by decide) ?_
              refine lv_aload_n hx hb dL_law_321 rfl (lv_at hl 6 rfl) ?_
              refine lv_iload hx hb dL_law_322 (lv_at hl 1 rfl) ?_
              refine lv_iconst (v := 5) hx hb dL_law_324 (by decide) ?_
              refine lv_iadd hx hb dL_law_325 ?_
              refine W.eq (congrArg (fun z : Int32 => F0 m 326 ls (.int z :: [.ref b, .int 0, .int (xs (3 : Int32).toNatClampNeg), .int (((xs (2 : Int32).toNatClampNeg).toUInt32 % 65536).toInt32), .int (((xs (1 : Int32).toNatClampNeg).toUInt32 % 65536).toInt32), .ref w34])) (by decide : (0 + 5 : Int32) = 5)) ?_
              refine va_sld hx hb hX hbl hbA hS (i := 5) (by unfold vp_in; decide) dL_law_326 ?_
              refine lv_if_eq (tgt := 334) hx hb dL_law_327 (by decide) (fun c_6 => ?_) (fun c_6 => ?_)
              · refine lv_iconst (v := 0) hx hb dL_law_334 (by decide) ?_
                refine lv_aload_n hx hb dL_law_335 rfl (lv_at hl 6 rfl) ?_
                refine lv_iload hx hb dL_law_336 (lv_at hl 1 rfl) ?_
                refine lv_bipush (v := 6) hx hb dL_law_338 (by decide) ?_
                refine lv_iadd hx hb dL_law_340 ?_
                refine W.eq (congrArg (fun z : Int32 => F0 m 341 ls (.int z :: [.ref b, .int 0, .int 0, .int (xs (3 : Int32).toNatClampNeg), .int (((xs (2 : Int32).toNatClampNeg).toUInt32 % 65536).toInt32), .int (((xs (1 : Int32).toNatClampNeg).toUInt32 % 65536).toInt32), .ref w34])) (by decide : (0 + 6 : Int32) = 6)) ?_
                refine va_sld hx hb hX hbl hbA hS (i := 6) (by unfold vp_in; decide) dL_law_341 ?_
                refine lv_if_eq (tgt := 349) hx hb dL_law_342 (by decide) (fun c_7 => ?_) (fun c_7 => ?_)
                · refine lv_iconst (v := 0) hx hb dL_law_349 (by decide) ?_
                  have hPc := hP.sub (ws' := [(w34, .inr (12, [.int 0, .ref w35, .ref w36, .ref w37, .int (-1), .int (-1), .int 0, .ref w38, .ref w39, .ref w40, .ref w41, .ref w42, .ref w43, .ref w44, .ref w45, .ref w46, .int 0, .int 0, .null, .int 0, .int 45, .ref w47, .ref w48, .ref w49, .ref w50, .ref w51])), (w35, .inr (14, [.int 0, .ref tE, .int 0])), (w36, .inr (14, [.int 0, .ref tE, .int 0]))]) [12, 13, 14] rfl
                  have hKc := hK.sub (tys' := []) [] rfl
                  have hDc := hD.sub (ws' := [(w34, .inr (12, [.int 0, .ref w35, .ref w36, .ref w37, .int (-1), .int (-1), .int 0, .ref w38, .ref w39, .ref w40, .ref w41, .ref w42, .ref w43, .ref w44, .ref w45, .ref w46, .int 0, .int 0, .null, .int 0, .int 45, .ref w47, .ref w48, .ref w49, .ref w50, .ref w51])), (w35, .inr (14, [.int 0, .ref tE, .int 0])), (w36, .inr (14, [.int 0, .ref tE, .int 0]))]) [12, 13, 14] (by decide) rfl
                  have hFc := va_free (wc := [(w34, .inr (12, [.int 0, .ref w35, .ref w36, .ref w37, .int (-1), .int (-1), .int 0, .ref w38, .ref w39, .ref w40, .ref w41, .ref w42, .ref w43, .ref w44, .ref w45, .ref w46, .int 0, .int 0, .null, .int 0, .int 45, .ref w47, .ref w48, .ref w49, .ref w50, .ref w51])), (w35, .inr (14, [.int 0, .ref tE, .int 0])), (w36, .inr (14, [.int 0, .ref tE, .int 0]))]) hD hS hA [12, 13, 14] rfl
                  refine va_calli (va_runV (As := [.int (((xs (1 : Int32).toNatClampNeg).toUInt32 % 65536).toInt32), .int (((xs (2 : Int32).toNatClampNeg).toUInt32 % 65536).toInt32), .int (xs (3 : Int32).toNatClampNeg), .int 0, .int 0, .int 0]) (rest := []) ⟨hx, hb, hml, hown, hq⟩ (c_M_role_no l hst tE adK adV dC dI w34 w35 w36 w37 w38 w39 w40 w41 w42 w43 w44 w45 w46 w47 w48 w49 w50 w51 0 (((xs (1 : Int32).toNatClampNeg).toUInt32 % 65536).toInt32) (((xs (2 : Int32).toNatClampNeg).toUInt32 % 65536).toInt32) (xs (3 : Int32).toNatClampNeg) 0 0 0 hok H.size) (tcV 6 hq q_1386 q_12 q_1383 q_1384 q_1385 rfl rfl (by decide +kernel) ⟨Nat.le_of_ble_eq_true rfl, Nat.le_of_ble_eq_true rfl⟩) (pre.V (va_recv hK hP (ci := 12) (q0 := 12) rfl rfl) (pre.of hPc hDc hKc ham hS hFc)) rfl rfl hl.1 rfl (lv_room (Nat.le_of_ble_eq_true rfl)) dL_law_350 ⟨Nat.le_of_ble_eq_true rfl, Nat.le_of_ble_eq_true rfl⟩) hS (fun q _ h => hFc q h) hFc (fun r_8 u t H1 locs ht hvm hw hB hz1 hk1 hS => ?_)
                  obtain ⟨hP1, hK1, hD1⟩ := hB
                  rw [ht] at hP1
                  have hK1 := va_K.moved hvm.symm hK1
                  obtain ⟨hP, hD⟩ := va_join (wr := [(w0, .inr (10, [.ref w1, .ref w2, .ref w3, .ref w4, .ref w5, .ref w6, .ref w7, .ref w8])), (w1, .inr (7, [.ref w9, .ref w10, .ref w11, .ref w12, .ref w13, .ref w14, .ref w15, .int 0])), (w9, .inl (w16, 8, .inl (fun _ => 0))), (w10, .inl (w17, 8, .inl (fun _ => 0))), (w11, .inl (w18, 8, .inl (fun _ => 0))), (w12, .inl (w19, 8, .inl (fun _ => 0))), (w13, .inl (w20, 8, .inl (fun _ => 0))), (w14, .inl (w21, 8, .inl (fun _ => 0))), (w15, .inl (w22, 8, .inl (fun _ => 0))), (w2, .inr (2, [.ref w23, .ref w24, .ref w25, .int 0, .int (-1), .int (-1)])), (w3, .inr (4, [.ref w26, .ref w27, .ref w28, .int 0, .int 0, .int 0, .int 45])), (w26, .inr (3, [.ref w1, .ref w2, .ref w29, .ref w30, .ref w31, .ref w32, .ref w33, .int 0, .int 0])), (w52, .inl (w53, 1, .inr (.inl (fun _ => 0)))), (w54, .inl (w55, 1, .inr (.inr (.inr (.inl (fun _ => 0))))))]) (w1 := [(w34, .inr (12, [.int 1, .ref w35, .ref w36, .ref w37, .int (-1), .int (-1), .int 0, .ref w38, .ref w39, .ref w40, .ref w41, .ref w42, .ref w43, .ref w44, .ref w45, .ref w46, .int 0, .int 0, .null, .int 0, .int 45, .ref w47, .ref w48, .ref w49, .ref w50, .ref w51]))]) (wc := [(w34, .inr (12, [.int 0, .ref w35, .ref w36, .ref w37, .int (-1), .int (-1), .int 0, .ref w38, .ref w39, .ref w40, .ref w41, .ref w42, .ref w43, .ref w44, .ref w45, .ref w46, .int 0, .int 0, .null, .int 0, .int 45, .ref w47, .ref w48, .ref w49, .ref w50, .ref w51])), (w35, .inr (14, [.int 0, .ref tE, .int 0])), (w36, .inr (14, [.int 0, .ref tE, .int 0]))]) hP hD [12, 13, 14] [0, 1, 2, 3, 4, 5, 6, 7, 8, 9, 10, 11, 15, 16] rfl rfl (by decide) (by decide) hk1 hFc hP1 hD1
                  have hK := (hK.sub (tys' := [(w16, .char), (w17, .char), (w18, .int), (w19, .boolean), (w20, .boolean), (w21, .boolean), (w22, .int), (w53, .long), (w55, .double)]) [0, 1, 2, 3, 4, 5, 6, 7, 8] rfl).app hK1
                  generalize H1 = H at hP hS ⊢
                  have hP : va_P (dC, dI) cls [(w0, .inr (10, [.ref w1, .ref w2, .ref w3, .ref w4, .ref w5, .ref w6, .ref w7, .ref w8])), (w1, .inr (7, [.ref w9, .ref w10, .ref w11, .ref w12, .ref w13, .ref w14, .ref w15, .int 0])), (w9, .inl (w16, 8, .inl (fun _ => 0))), (w10, .inl (w17, 8, .inl (fun _ => 0))), (w11, .inl (w18, 8, .inl (fun _ => 0))), (w12, .inl (w19, 8, .inl (fun _ => 0))), (w13, .inl (w20, 8, .inl (fun _ => 0))), (w14, .inl (w21, 8, .inl (fun _ => 0))), (w15, .inl (w22, 8, .inl (fun _ => 0))), (w2, .inr (2, [.ref w23, .ref w24, .ref w25, .int 0, .int (-1), .int (-1)])), (w3, .inr (4, [.ref w26, .ref w27, .ref w28, .int 0, .int 0, .int 0, .int 45])), (w26, .inr (3, [.ref w1, .ref w2, .ref w29, .ref w30, .ref w31, .ref w32, .ref w33, .int 0, .int 0])), (w52, .inl (w53, 1, .inr (.inl (fun _ => 0)))), (w54, .inl (w55, 1, .inr (.inr (.inr (.inl (fun _ => 0)))))), (w34, .inr (12, [.int 1, .ref w35, .ref w36, .ref w37, .int (-1), .int (-1), .int 0, .ref w38, .ref w39, .ref w40, .ref w41, .ref w42, .ref w43, .ref w44, .ref w45, .ref w46, .int 0, .int 0, .null, .int 0, .int 45, .ref w47, .ref w48, .ref w49, .ref w50, .ref w51]))] H := hP
                  have hD : va_D A [(w0, .inr (10, [.ref w1, .ref w2, .ref w3, .ref w4, .ref w5, .ref w6, .ref w7, .ref w8])), (w1, .inr (7, [.ref w9, .ref w10, .ref w11, .ref w12, .ref w13, .ref w14, .ref w15, .int 0])), (w9, .inl (w16, 8, .inl (fun _ => 0))), (w10, .inl (w17, 8, .inl (fun _ => 0))), (w11, .inl (w18, 8, .inl (fun _ => 0))), (w12, .inl (w19, 8, .inl (fun _ => 0))), (w13, .inl (w20, 8, .inl (fun _ => 0))), (w14, .inl (w21, 8, .inl (fun _ => 0))), (w15, .inl (w22, 8, .inl (fun _ => 0))), (w2, .inr (2, [.ref w23, .ref w24, .ref w25, .int 0, .int (-1), .int (-1)])), (w3, .inr (4, [.ref w26, .ref w27, .ref w28, .int 0, .int 0, .int 0, .int 45])), (w26, .inr (3, [.ref w1, .ref w2, .ref w29, .ref w30, .ref w31, .ref w32, .ref w33, .int 0, .int 0])), (w52, .inl (w53, 1, .inr (.inl (fun _ => 0)))), (w54, .inl (w55, 1, .inr (.inr (.inr (.inl (fun _ => 0)))))), (w34, .inr (12, [.int 1, .ref w35, .ref w36, .ref w37, .int (-1), .int (-1), .int 0, .ref w38, .ref w39, .ref w40, .ref w41, .ref w42, .ref w43, .ref w44, .ref w45, .ref w46, .int 0, .int 0, .null, .int 0, .int 45, .ref w47, .ref w48, .ref w49, .ref w50, .ref w51]))] := hD
                  have hK : va_K (dC, dI) cls [(w16, .char), (w17, .char), (w18, .int), (w19, .boolean), (w20, .boolean), (w21, .boolean), (w22, .int), (w53, .long), (w55, .double)] s := hK
                  refine W.widen (k := 92) (n := 4908) (Nat.le_of_ble_eq_true rfl) (Nat.le_of_ble_eq_true rfl) ?_
                  refine lv_istore (lv' := [(7, .int r_8), (6, .int 1), (5, .int 0), (4, .ref w54), (3, .ref w52), (2, .ref w34), (1, .ref w0), (0, .ref b)]) hx hb dL_law_353 hl (by decide) rfl (fun ls hl => ?_)
                  refine lv_aload_n hx hb dL_law_355 rfl (lv_at hl 5 rfl) ?_
                  have hPc := hP.sub (ws' := [(w34, .inr (12, [.int 1, .ref w35, .ref w36, .ref w37, .int (-1), .int (-1), .int 0, .ref w38, .ref w39, .ref w40, .ref w41, .ref w42, .ref w43, .ref w44, .ref w45, .ref w46, .int 0, .int 0, .null, .int 0, .int 45, .ref w47, .ref w48, .ref w49, .ref w50, .ref w51]))]) [14] rfl
                  have hKc := hK.sub (tys' := []) [] rfl
                  refine va_calli (va_runV (As := []) (rest := []) ⟨hx, hb, hml, hown, hq⟩ (c_thrown l hst tE adK adV dC dI w34 w35 w36 w37 w38 w39 w40 w41 w42 w43 w44 w45 w46 w47 w48 w49 w50 w51 1 H.size) (tcV 0 hq q_1264 q_12 q_1261 q_1262 q_1263 rfl rfl (by decide +kernel) ⟨Nat.le_of_ble_eq_true rfl, Nat.le_of_ble_eq_true rfl⟩) (preR.V (va_recv hK hP (ci := 12) (q0 := 14) rfl rfl) (preR.of hPc hKc ham hS hA)) rfl rfl hl.1 rfl (lv_room (Nat.le_of_ble_eq_true rfl)) dL_law_356 ⟨Nat.le_of_ble_eq_true rfl, Nat.le_of_ble_eq_true rfl⟩) hS (fun q _ h => hA q (Nat.le_trans hS.1 h)) (fun q h => hA q (Nat.le_trans hS.1 h)) (fun r_9 u t H1 locs ht hvm hw hB hz1 hk1 hS => ?_)
                  have hP : va_P (dC, dI) cls [(w0, .inr (10, [.ref w1, .ref w2, .ref w3, .ref w4, .ref w5, .ref w6, .ref w7, .ref w8])), (w1, .inr (7, [.ref w9, .ref w10, .ref w11, .ref w12, .ref w13, .ref w14, .ref w15, .int 0])), (w9, .inl (w16, 8, .inl (fun _ => 0))), (w10, .inl (w17, 8, .inl (fun _ => 0))), (w11, .inl (w18, 8, .inl (fun _ => 0))), (w12, .inl (w19, 8, .inl (fun _ => 0))), (w13, .inl (w20, 8, .inl (fun _ => 0))), (w14, .inl (w21, 8, .inl (fun _ => 0))), (w15, .inl (w22, 8, .inl (fun _ => 0))), (w2, .inr (2, [.ref w23, .ref w24, .ref w25, .int 0, .int (-1), .int (-1)])), (w3, .inr (4, [.ref w26, .ref w27, .ref w28, .int 0, .int 0, .int 0, .int 45])), (w26, .inr (3, [.ref w1, .ref w2, .ref w29, .ref w30, .ref w31, .ref w32, .ref w33, .int 0, .int 0])), (w52, .inl (w53, 1, .inr (.inl (fun _ => 0)))), (w54, .inl (w55, 1, .inr (.inr (.inr (.inl (fun _ => 0)))))), (w34, .inr (12, [.int 1, .ref w35, .ref w36, .ref w37, .int (-1), .int (-1), .int 0, .ref w38, .ref w39, .ref w40, .ref w41, .ref w42, .ref w43, .ref w44, .ref w45, .ref w46, .int 0, .int 0, .null, .int 0, .int 45, .ref w47, .ref w48, .ref w49, .ref w50, .ref w51]))] H1 := ro_keep hP hk1
                  generalize H1 = H at hP hS ⊢
                  refine W.widen (k := 92) (n := 4908) (Nat.le_of_ble_eq_true rfl) (Nat.le_of_ble_eq_true rfl) ?_
                  have hw : r_9 = 1 := hw
                  subst hw
                  refine lv_iload hx hb dL_law_359 (lv_at hl 1 rfl) ?_
                  refine lv_icmp_eq (tgt := 366) hx hb dL_law_361 (by decide) (fun c_10 => ?_) (fun c_10 => ?_)
                  · refine lv_iload hx hb dL_law_366 (lv_at hl 1 rfl) ?_
                    refine lv_if_ne (tgt := 383) hx hb dL_law_368 (by decide) (fun c_11 => ?_) (fun c_11 => ?_)
                    · refine lv_goto (tgt := 2585) hx hb dL_law_383 (by decide) ?_
                      refine W.widen (k := 600002) (n := 7302232) (Nat.le_of_ble_eq_true rfl) (Nat.le_of_ble_eq_true rfl) ?_
                      exact law_end C0 hA hA2 hS (lv_sub hl [7, 2] rfl)
                    · exact absurd c_11 (by decide)
                  · exact absurd c_10 (by decide)
                · exact absurd c_3 c_7
              · exact absurd c_2 c_6
            · exact absurd c_1 c_5
        · refine lv_iconst (v := 1) hx hb dL_law_275 (by decide) ?_
          refine lv_goto (tgt := 280) hx hb dL_law_276 (by decide) ?_
          refine lv_aload_n hx hb dL_law_280 rfl (lv_at hl 2 rfl) ?_
          have hPc := hP.sub (ws' := [(w0, .inr (10, [.ref w1, .ref w2, .ref w3, .ref w4, .ref w5, .ref w6, .ref w7, .ref w8])), (w1, .inr (7, [.ref w9, .ref w10, .ref w11, .ref w12, .ref w13, .ref w14, .ref w15, .int 0])), (w2, .inr (2, [.ref w23, .ref w24, .ref w25, .int 0, .int (-1), .int (-1)])), (w3, .inr (4, [.ref w26, .ref w27, .ref w28, .int 0, .int 0, .int 0, .int 45])), (w26, .inr (3, [.ref w1, .ref w2, .ref w29, .ref w30, .ref w31, .ref w32, .ref w33, .int 0, .int 0]))]) [0, 1, 9, 10, 11] rfl
          have hKc := hK.sub (tys' := []) [] rfl
          refine vx_calli (vx_runSX (As := [.ref w0, .int (((xs (1 : Int32).toNatClampNeg).toUInt32 % 65536).toInt32), .int (((xs (2 : Int32).toNatClampNeg).toUInt32 % 65536).toInt32), .int (xs (3 : Int32).toNatClampNeg), .int 0, .int 0, .int 1, .ref w52]) (rest := []) ⟨hx, hb, hml, hown, hq⟩ (c_L_role_no l hst tE adK adV dC dI w0 w1 w2 w3 w4 w5 w6 w7 w8 w9 w10 w11 w12 w13 w14 w15 w23 w24 w25 w26 w27 w28 w29 w30 w31 w32 w33 w52 (((xs (1 : Int32).toNatClampNeg).toUInt32 % 65536).toInt32) (((xs (2 : Int32).toNatClampNeg).toUInt32 % 65536).toInt32) (xs (3 : Int32).toNatClampNeg) 0 0 1 hok H.size) (tcSW 8 hq q_682 q_0 q_680 q_681 rfl rfl (by decide +kernel) ⟨Nat.le_of_ble_eq_true rfl, Nat.le_of_ble_eq_true rfl⟩) (preR.S (preR.of hPc hKc ham hS hA)) rfl rfl hl.1 rfl (lv_room (Nat.le_of_ble_eq_true rfl)) dL_law_281 ⟨Nat.le_of_ble_eq_true rfl, Nat.le_of_ble_eq_true rfl⟩) hS (fun q _ h => hA q (Nat.le_trans hS.1 h)) (fun q h => hA q (Nat.le_trans hS.1 h)) (fun q _ h => hA q (Nat.le_trans hS.1 h)) (fun E ce q9 u t H1 locs ht hvm hpx hB hz1 hk1 hS hce hcv hcl => ?_) (fun r_12 u t H1 locs ht hvm hw hB hz1 hk1 hS => ?_)
          · exact (hB : False).elim
          · have hP : va_P (dC, dI) cls [(w0, .inr (10, [.ref w1, .ref w2, .ref w3, .ref w4, .ref w5, .ref w6, .ref w7, .ref w8])), (w1, .inr (7, [.ref w9, .ref w10, .ref w11, .ref w12, .ref w13, .ref w14, .ref w15, .int 0])), (w9, .inl (w16, 8, .inl (fun _ => 0))), (w10, .inl (w17, 8, .inl (fun _ => 0))), (w11, .inl (w18, 8, .inl (fun _ => 0))), (w12, .inl (w19, 8, .inl (fun _ => 0))), (w13, .inl (w20, 8, .inl (fun _ => 0))), (w14, .inl (w21, 8, .inl (fun _ => 0))), (w15, .inl (w22, 8, .inl (fun _ => 0))), (w2, .inr (2, [.ref w23, .ref w24, .ref w25, .int 0, .int (-1), .int (-1)])), (w3, .inr (4, [.ref w26, .ref w27, .ref w28, .int 0, .int 0, .int 0, .int 45])), (w26, .inr (3, [.ref w1, .ref w2, .ref w29, .ref w30, .ref w31, .ref w32, .ref w33, .int 0, .int 0])), (w34, .inr (12, [.int 0, .ref w35, .ref w36, .ref w37, .int (-1), .int (-1), .int 0, .ref w38, .ref w39, .ref w40, .ref w41, .ref w42, .ref w43, .ref w44, .ref w45, .ref w46, .int 0, .int 0, .null, .int 0, .int 45, .ref w47, .ref w48, .ref w49, .ref w50, .ref w51])), (w35, .inr (14, [.int 0, .ref tE, .int 0])), (w36, .inr (14, [.int 0, .ref tE, .int 0])), (w52, .inl (w53, 1, .inr (.inl (fun _ => 0)))), (w54, .inl (w55, 1, .inr (.inr (.inr (.inl (fun _ => 0))))))] H1 := ro_keep hP hk1
            generalize H1 = H at hP hS ⊢
            refine W.widen (k := 92) (n := 4908) (Nat.le_of_ble_eq_true rfl) (Nat.le_of_ble_eq_true rfl) ?_
            have hw : r_12 = 1 := hw
            subst hw
            refine lv_istore (lv' := [(6, .int 1), (5, .int 0), (4, .ref w54), (3, .ref w52), (2, .ref w34), (1, .ref w0), (0, .ref b)]) hx hb dL_law_284 hl (by decide) rfl (fun ls hl => ?_)
            refine lv_aload_n hx hb dL_law_286 rfl (lv_at hl 4 rfl) ?_
            refine lv_aload_n hx hb dL_law_287 rfl (lv_at hl 6 rfl) ?_
            refine lv_iload hx hb dL_law_288 (lv_at hl 1 rfl) ?_
            refine lv_iconst (v := 1) hx hb dL_law_290 (by decide) ?_
            refine lv_iadd hx hb dL_law_291 ?_
            refine W.eq (congrArg (fun z : Int32 => F0 m 292 ls (.int z :: [.ref b, .ref w34])) (by decide : (0 + 1 : Int32) = 1)) ?_
            refine va_sld hx hb hX hbl hbA hS (i := 1) (by unfold vp_in; decide) dL_law_292 ?_
            refine lv_i2c (v := ((xs (1 : Int32).toNatClampNeg).toUInt32 % 65536).toInt32) hx hb dL_law_293 rfl ?_
            refine lv_aload_n hx hb dL_law_294 rfl (lv_at hl 6 rfl) ?_
            refine lv_iload hx hb dL_law_295 (lv_at hl 1 rfl) ?_
            refine lv_iconst (v := 2) hx hb dL_law_297 (by decide) ?_
            refine lv_iadd hx hb dL_law_298 ?_
            refine W.eq (congrArg (fun z : Int32 => F0 m 299 ls (.int z :: [.ref b, .int (((xs (1 : Int32).toNatClampNeg).toUInt32 % 65536).toInt32), .ref w34])) (by decide : (0 + 2 : Int32) = 2)) ?_
            refine va_sld hx hb hX hbl hbA hS (i := 2) (by unfold vp_in; decide) dL_law_299 ?_
            refine lv_i2c (v := ((xs (2 : Int32).toNatClampNeg).toUInt32 % 65536).toInt32) hx hb dL_law_300 rfl ?_
            refine lv_aload_n hx hb dL_law_301 rfl (lv_at hl 6 rfl) ?_
            refine lv_iload hx hb dL_law_302 (lv_at hl 1 rfl) ?_
            refine lv_iconst (v := 3) hx hb dL_law_304 (by decide) ?_
            refine lv_iadd hx hb dL_law_305 ?_
            refine W.eq (congrArg (fun z : Int32 => F0 m 306 ls (.int z :: [.ref b, .int (((xs (2 : Int32).toNatClampNeg).toUInt32 % 65536).toInt32), .int (((xs (1 : Int32).toNatClampNeg).toUInt32 % 65536).toInt32), .ref w34])) (by decide : (0 + 3 : Int32) = 3)) ?_
            refine va_sld hx hb hX hbl hbA hS (i := 3) (by unfold vp_in; decide) dL_law_306 ?_
            refine lv_aload_n hx hb dL_law_307 rfl (lv_at hl 6 rfl) ?_
            refine lv_iload hx hb dL_law_308 (lv_at hl 1 rfl) ?_
            refine lv_iconst (v := 4) hx hb dL_law_310 (by decide) ?_
            refine lv_iadd hx hb dL_law_311 ?_
            refine W.eq (congrArg (fun z : Int32 => F0 m 312 ls (.int z :: [.ref b, .int (xs (3 : Int32).toNatClampNeg), .int (((xs (2 : Int32).toNatClampNeg).toUInt32 % 65536).toInt32), .int (((xs (1 : Int32).toNatClampNeg).toUInt32 % 65536).toInt32), .ref w34])) (by decide : (0 + 4 : Int32) = 4)) ?_
            refine va_sld hx hb hX hbl hbA hS (i := 4) (by unfold vp_in; decide) dL_law_312 ?_
            refine lv_if_eq (tgt := 320) hx hb dL_law_313 (by decide) (fun c_13 => ?_) (fun c_13 => ?_)
            · refine lv_iconst (v := 0) hx hb dL_law_320 (by decide) ?_
              refine lv_aload_n hx hb dL_law_321 rfl (lv_at hl 6 rfl) ?_
              refine lv_iload hx hb dL_law_322 (lv_at hl 1 rfl) ?_
              refine lv_iconst (v := 5) hx hb dL_law_324 (by decide) ?_
              refine lv_iadd hx hb dL_law_325 ?_
              refine W.eq (congrArg (fun z : Int32 => F0 m 326 ls (.int z :: [.ref b, .int 0, .int (xs (3 : Int32).toNatClampNeg), .int (((xs (2 : Int32).toNatClampNeg).toUInt32 % 65536).toInt32), .int (((xs (1 : Int32).toNatClampNeg).toUInt32 % 65536).toInt32), .ref w34])) (by decide : (0 + 5 : Int32) = 5)) ?_
              refine va_sld hx hb hX hbl hbA hS (i := 5) (by unfold vp_in; decide) dL_law_326 ?_
              refine lv_if_eq (tgt := 334) hx hb dL_law_327 (by decide) (fun c_14 => ?_) (fun c_14 => ?_)
              · refine lv_iconst (v := 0) hx hb dL_law_334 (by decide) ?_
                refine lv_aload_n hx hb dL_law_335 rfl (lv_at hl 6 rfl) ?_
                refine lv_iload hx hb dL_law_336 (lv_at hl 1 rfl) ?_
                refine lv_bipush (v := 6) hx hb dL_law_338 (by decide) ?_
                refine lv_iadd hx hb dL_law_340 ?_
                refine W.eq (congrArg (fun z : Int32 => F0 m 341 ls (.int z :: [.ref b, .int 0, .int 0, .int (xs (3 : Int32).toNatClampNeg), .int (((xs (2 : Int32).toNatClampNeg).toUInt32 % 65536).toInt32), .int (((xs (1 : Int32).toNatClampNeg).toUInt32 % 65536).toInt32), .ref w34])) (by decide : (0 + 6 : Int32) = 6)) ?_
                refine va_sld hx hb hX hbl hbA hS (i := 6) (by unfold vp_in; decide) dL_law_341 ?_
                refine lv_if_eq (tgt := 349) hx hb dL_law_342 (by decide) (fun c_15 => ?_) (fun c_15 => ?_)
                · exact absurd c_15 c_3
                · refine lv_iconst (v := 1) hx hb dL_law_345 (by decide) ?_
                  refine lv_goto (tgt := 350) hx hb dL_law_346 (by decide) ?_
                  have hPc := hP.sub (ws' := [(w34, .inr (12, [.int 0, .ref w35, .ref w36, .ref w37, .int (-1), .int (-1), .int 0, .ref w38, .ref w39, .ref w40, .ref w41, .ref w42, .ref w43, .ref w44, .ref w45, .ref w46, .int 0, .int 0, .null, .int 0, .int 45, .ref w47, .ref w48, .ref w49, .ref w50, .ref w51])), (w35, .inr (14, [.int 0, .ref tE, .int 0])), (w36, .inr (14, [.int 0, .ref tE, .int 0]))]) [12, 13, 14] rfl
                  have hKc := hK.sub (tys' := []) [] rfl
                  have hDc := hD.sub (ws' := [(w34, .inr (12, [.int 0, .ref w35, .ref w36, .ref w37, .int (-1), .int (-1), .int 0, .ref w38, .ref w39, .ref w40, .ref w41, .ref w42, .ref w43, .ref w44, .ref w45, .ref w46, .int 0, .int 0, .null, .int 0, .int 45, .ref w47, .ref w48, .ref w49, .ref w50, .ref w51])), (w35, .inr (14, [.int 0, .ref tE, .int 0])), (w36, .inr (14, [.int 0, .ref tE, .int 0]))]) [12, 13, 14] (by decide) rfl
                  have hFc := va_free (wc := [(w34, .inr (12, [.int 0, .ref w35, .ref w36, .ref w37, .int (-1), .int (-1), .int 0, .ref w38, .ref w39, .ref w40, .ref w41, .ref w42, .ref w43, .ref w44, .ref w45, .ref w46, .int 0, .int 0, .null, .int 0, .int 45, .ref w47, .ref w48, .ref w49, .ref w50, .ref w51])), (w35, .inr (14, [.int 0, .ref tE, .int 0])), (w36, .inr (14, [.int 0, .ref tE, .int 0]))]) hD hS hA [12, 13, 14] rfl
                  refine va_calli (va_runV (As := [.int (((xs (1 : Int32).toNatClampNeg).toUInt32 % 65536).toInt32), .int (((xs (2 : Int32).toNatClampNeg).toUInt32 % 65536).toInt32), .int (xs (3 : Int32).toNatClampNeg), .int 0, .int 0, .int 1]) (rest := []) ⟨hx, hb, hml, hown, hq⟩ (c_M_role_no l hst tE adK adV dC dI w34 w35 w36 w37 w38 w39 w40 w41 w42 w43 w44 w45 w46 w47 w48 w49 w50 w51 0 (((xs (1 : Int32).toNatClampNeg).toUInt32 % 65536).toInt32) (((xs (2 : Int32).toNatClampNeg).toUInt32 % 65536).toInt32) (xs (3 : Int32).toNatClampNeg) 0 0 1 hok H.size) (tcV 6 hq q_1386 q_12 q_1383 q_1384 q_1385 rfl rfl (by decide +kernel) ⟨Nat.le_of_ble_eq_true rfl, Nat.le_of_ble_eq_true rfl⟩) (pre.V (va_recv hK hP (ci := 12) (q0 := 12) rfl rfl) (pre.of hPc hDc hKc ham hS hFc)) rfl rfl hl.1 rfl (lv_room (Nat.le_of_ble_eq_true rfl)) dL_law_350 ⟨Nat.le_of_ble_eq_true rfl, Nat.le_of_ble_eq_true rfl⟩) hS (fun q _ h => hFc q h) hFc (fun r_16 u t H1 locs ht hvm hw hB hz1 hk1 hS => ?_)
                  obtain ⟨hP1, hK1, hD1⟩ := hB
                  rw [ht] at hP1
                  have hK1 := va_K.moved hvm.symm hK1
                  obtain ⟨hP, hD⟩ := va_join (wr := [(w0, .inr (10, [.ref w1, .ref w2, .ref w3, .ref w4, .ref w5, .ref w6, .ref w7, .ref w8])), (w1, .inr (7, [.ref w9, .ref w10, .ref w11, .ref w12, .ref w13, .ref w14, .ref w15, .int 0])), (w9, .inl (w16, 8, .inl (fun _ => 0))), (w10, .inl (w17, 8, .inl (fun _ => 0))), (w11, .inl (w18, 8, .inl (fun _ => 0))), (w12, .inl (w19, 8, .inl (fun _ => 0))), (w13, .inl (w20, 8, .inl (fun _ => 0))), (w14, .inl (w21, 8, .inl (fun _ => 0))), (w15, .inl (w22, 8, .inl (fun _ => 0))), (w2, .inr (2, [.ref w23, .ref w24, .ref w25, .int 0, .int (-1), .int (-1)])), (w3, .inr (4, [.ref w26, .ref w27, .ref w28, .int 0, .int 0, .int 0, .int 45])), (w26, .inr (3, [.ref w1, .ref w2, .ref w29, .ref w30, .ref w31, .ref w32, .ref w33, .int 0, .int 0])), (w52, .inl (w53, 1, .inr (.inl (fun _ => 0)))), (w54, .inl (w55, 1, .inr (.inr (.inr (.inl (fun _ => 0))))))]) (w1 := [(w34, .inr (12, [.int 1, .ref w35, .ref w36, .ref w37, .int (-1), .int (-1), .int 0, .ref w38, .ref w39, .ref w40, .ref w41, .ref w42, .ref w43, .ref w44, .ref w45, .ref w46, .int 0, .int 0, .null, .int 0, .int 45, .ref w47, .ref w48, .ref w49, .ref w50, .ref w51]))]) (wc := [(w34, .inr (12, [.int 0, .ref w35, .ref w36, .ref w37, .int (-1), .int (-1), .int 0, .ref w38, .ref w39, .ref w40, .ref w41, .ref w42, .ref w43, .ref w44, .ref w45, .ref w46, .int 0, .int 0, .null, .int 0, .int 45, .ref w47, .ref w48, .ref w49, .ref w50, .ref w51])), (w35, .inr (14, [.int 0, .ref tE, .int 0])), (w36, .inr (14, [.int 0, .ref tE, .int 0]))]) hP hD [12, 13, 14] [0, 1, 2, 3, 4, 5, 6, 7, 8, 9, 10, 11, 15, 16] rfl rfl (by decide) (by decide) hk1 hFc hP1 hD1
                  have hK := (hK.sub (tys' := [(w16, .char), (w17, .char), (w18, .int), (w19, .boolean), (w20, .boolean), (w21, .boolean), (w22, .int), (w53, .long), (w55, .double)]) [0, 1, 2, 3, 4, 5, 6, 7, 8] rfl).app hK1
                  generalize H1 = H at hP hS ⊢
                  have hP : va_P (dC, dI) cls [(w0, .inr (10, [.ref w1, .ref w2, .ref w3, .ref w4, .ref w5, .ref w6, .ref w7, .ref w8])), (w1, .inr (7, [.ref w9, .ref w10, .ref w11, .ref w12, .ref w13, .ref w14, .ref w15, .int 0])), (w9, .inl (w16, 8, .inl (fun _ => 0))), (w10, .inl (w17, 8, .inl (fun _ => 0))), (w11, .inl (w18, 8, .inl (fun _ => 0))), (w12, .inl (w19, 8, .inl (fun _ => 0))), (w13, .inl (w20, 8, .inl (fun _ => 0))), (w14, .inl (w21, 8, .inl (fun _ => 0))), (w15, .inl (w22, 8, .inl (fun _ => 0))), (w2, .inr (2, [.ref w23, .ref w24, .ref w25, .int 0, .int (-1), .int (-1)])), (w3, .inr (4, [.ref w26, .ref w27, .ref w28, .int 0, .int 0, .int 0, .int 45])), (w26, .inr (3, [.ref w1, .ref w2, .ref w29, .ref w30, .ref w31, .ref w32, .ref w33, .int 0, .int 0])), (w52, .inl (w53, 1, .inr (.inl (fun _ => 0)))), (w54, .inl (w55, 1, .inr (.inr (.inr (.inl (fun _ => 0)))))), (w34, .inr (12, [.int 1, .ref w35, .ref w36, .ref w37, .int (-1), .int (-1), .int 0, .ref w38, .ref w39, .ref w40, .ref w41, .ref w42, .ref w43, .ref w44, .ref w45, .ref w46, .int 0, .int 0, .null, .int 0, .int 45, .ref w47, .ref w48, .ref w49, .ref w50, .ref w51]))] H := hP
                  have hD : va_D A [(w0, .inr (10, [.ref w1, .ref w2, .ref w3, .ref w4, .ref w5, .ref w6, .ref w7, .ref w8])), (w1, .inr (7, [.ref w9, .ref w10, .ref w11, .ref w12, .ref w13, .ref w14, .ref w15, .int 0])), (w9, .inl (w16, 8, .inl (fun _ => 0))), (w10, .inl (w17, 8, .inl (fun _ => 0))), (w11, .inl (w18, 8, .inl (fun _ => 0))), (w12, .inl (w19, 8, .inl (fun _ => 0))), (w13, .inl (w20, 8, .inl (fun _ => 0))), (w14, .inl (w21, 8, .inl (fun _ => 0))), (w15, .inl (w22, 8, .inl (fun _ => 0))), (w2, .inr (2, [.ref w23, .ref w24, .ref w25, .int 0, .int (-1), .int (-1)])), (w3, .inr (4, [.ref w26, .ref w27, .ref w28, .int 0, .int 0, .int 0, .int 45])), (w26, .inr (3, [.ref w1, .ref w2, .ref w29, .ref w30, .ref w31, .ref w32, .ref w33, .int 0, .int 0])), (w52, .inl (w53, 1, .inr (.inl (fun _ => 0)))), (w54, .inl (w55, 1, .inr (.inr (.inr (.inl (fun _ => 0)))))), (w34, .inr (12, [.int 1, .ref w35, .ref w36, .ref w37, .int (-1), .int (-1), .int 0, .ref w38, .ref w39, .ref w40, .ref w41, .ref w42, .ref w43, .ref w44, .ref w45, .ref w46, .int 0, .int 0, .null, .int 0, .int 45, .ref w47, .ref w48, .ref w49, .ref w50, .ref w51]))] := hD
                  have hK : va_K (dC, dI) cls [(w16, .char), (w17, .char), (w18, .int), (w19, .boolean), (w20, .boolean), (w21, .boolean), (w22, .int), (w53, .long), (w55, .double)] s := hK
                  refine W.widen (k := 92) (n := 4908) (Nat.le_of_ble_eq_true rfl) (Nat.le_of_ble_eq_true rfl) ?_
                  refine lv_istore (lv' := [(7, .int r_16), (6, .int 1), (5, .int 0), (4, .ref w54), (3, .ref w52), (2, .ref w34), (1, .ref w0), (0, .ref b)]) hx hb dL_law_353 hl (by decide) rfl (fun ls hl => ?_)
                  refine lv_aload_n hx hb dL_law_355 rfl (lv_at hl 5 rfl) ?_
                  have hPc := hP.sub (ws' := [(w34, .inr (12, [.int 1, .ref w35, .ref w36, .ref w37, .int (-1), .int (-1), .int 0, .ref w38, .ref w39, .ref w40, .ref w41, .ref w42, .ref w43, .ref w44, .ref w45, .ref w46, .int 0, .int 0, .null, .int 0, .int 45, .ref w47, .ref w48, .ref w49, .ref w50, .ref w51]))]) [14] rfl
                  have hKc := hK.sub (tys' := []) [] rfl
                  refine va_calli (va_runV (As := []) (rest := []) ⟨hx, hb, hml, hown, hq⟩ (c_thrown l hst tE adK adV dC dI w34 w35 w36 w37 w38 w39 w40 w41 w42 w43 w44 w45 w46 w47 w48 w49 w50 w51 1 H.size) (tcV 0 hq q_1264 q_12 q_1261 q_1262 q_1263 rfl rfl (by decide +kernel) ⟨Nat.le_of_ble_eq_true rfl, Nat.le_of_ble_eq_true rfl⟩) (preR.V (va_recv hK hP (ci := 12) (q0 := 14) rfl rfl) (preR.of hPc hKc ham hS hA)) rfl rfl hl.1 rfl (lv_room (Nat.le_of_ble_eq_true rfl)) dL_law_356 ⟨Nat.le_of_ble_eq_true rfl, Nat.le_of_ble_eq_true rfl⟩) hS (fun q _ h => hA q (Nat.le_trans hS.1 h)) (fun q h => hA q (Nat.le_trans hS.1 h)) (fun r_17 u t H1 locs ht hvm hw hB hz1 hk1 hS => ?_)
                  have hP : va_P (dC, dI) cls [(w0, .inr (10, [.ref w1, .ref w2, .ref w3, .ref w4, .ref w5, .ref w6, .ref w7, .ref w8])), (w1, .inr (7, [.ref w9, .ref w10, .ref w11, .ref w12, .ref w13, .ref w14, .ref w15, .int 0])), (w9, .inl (w16, 8, .inl (fun _ => 0))), (w10, .inl (w17, 8, .inl (fun _ => 0))), (w11, .inl (w18, 8, .inl (fun _ => 0))), (w12, .inl (w19, 8, .inl (fun _ => 0))), (w13, .inl (w20, 8, .inl (fun _ => 0))), (w14, .inl (w21, 8, .inl (fun _ => 0))), (w15, .inl (w22, 8, .inl (fun _ => 0))), (w2, .inr (2, [.ref w23, .ref w24, .ref w25, .int 0, .int (-1), .int (-1)])), (w3, .inr (4, [.ref w26, .ref w27, .ref w28, .int 0, .int 0, .int 0, .int 45])), (w26, .inr (3, [.ref w1, .ref w2, .ref w29, .ref w30, .ref w31, .ref w32, .ref w33, .int 0, .int 0])), (w52, .inl (w53, 1, .inr (.inl (fun _ => 0)))), (w54, .inl (w55, 1, .inr (.inr (.inr (.inl (fun _ => 0)))))), (w34, .inr (12, [.int 1, .ref w35, .ref w36, .ref w37, .int (-1), .int (-1), .int 0, .ref w38, .ref w39, .ref w40, .ref w41, .ref w42, .ref w43, .ref w44, .ref w45, .ref w46, .int 0, .int 0, .null, .int 0, .int 45, .ref w47, .ref w48, .ref w49, .ref w50, .ref w51]))] H1 := ro_keep hP hk1
                  generalize H1 = H at hP hS ⊢
                  refine W.widen (k := 92) (n := 4908) (Nat.le_of_ble_eq_true rfl) (Nat.le_of_ble_eq_true rfl) ?_
                  have hw : r_17 = 1 := hw
                  subst hw
                  refine lv_iload hx hb dL_law_359 (lv_at hl 1 rfl) ?_
                  refine lv_icmp_eq (tgt := 366) hx hb dL_law_361 (by decide) (fun c_18 => ?_) (fun c_18 => ?_)
                  · refine lv_iload hx hb dL_law_366 (lv_at hl 1 rfl) ?_
                    refine lv_if_ne (tgt := 383) hx hb dL_law_368 (by decide) (fun c_19 => ?_) (fun c_19 => ?_)
                    · refine lv_goto (tgt := 2585) hx hb dL_law_383 (by decide) ?_
                      refine W.widen (k := 600002) (n := 7302232) (Nat.le_of_ble_eq_true rfl) (Nat.le_of_ble_eq_true rfl) ?_
                      exact law_end C0 hA hA2 hS (lv_sub hl [7, 2] rfl)
                    · exact absurd c_19 (by decide)
                  · exact absurd c_18 (by decide)
              · exact absurd c_2 c_14
            · exact absurd c_1 c_13
      · refine lv_iconst (v := 1) hx hb dL_law_260 (by decide) ?_
        refine lv_goto (tgt := 265) hx hb dL_law_261 (by decide) ?_
        refine lv_aload_n hx hb dL_law_265 rfl (lv_at hl 5 rfl) ?_
        refine lv_iload hx hb dL_law_266 (lv_at hl 0 rfl) ?_
        refine lv_bipush (v := 6) hx hb dL_law_268 (by decide) ?_
        refine lv_iadd hx hb dL_law_270 ?_
        refine W.eq (congrArg (fun z : Int32 => F0 m 271 ls (.int z :: [.ref b, .int 1, .int 0, .int (xs (3 : Int32).toNatClampNeg), .int (((xs (2 : Int32).toNatClampNeg).toUInt32 % 65536).toInt32), .int (((xs (1 : Int32).toNatClampNeg).toUInt32 % 65536).toInt32), .ref w0])) (by decide : (0 + 6 : Int32) = 6)) ?_
        refine va_sld hx hb hX hbl hbA hS (i := 6) (by unfold vp_in; decide) dL_law_271 ?_
        refine lv_if_eq (tgt := 279) hx hb dL_law_272 (by decide) (fun c_20 => ?_) (fun c_20 => ?_)
        · refine lv_iconst (v := 0) hx hb dL_law_279 (by decide) ?_
          refine lv_aload_n hx hb dL_law_280 rfl (lv_at hl 2 rfl) ?_
          have hPc := hP.sub (ws' := [(w0, .inr (10, [.ref w1, .ref w2, .ref w3, .ref w4, .ref w5, .ref w6, .ref w7, .ref w8])), (w1, .inr (7, [.ref w9, .ref w10, .ref w11, .ref w12, .ref w13, .ref w14, .ref w15, .int 0])), (w2, .inr (2, [.ref w23, .ref w24, .ref w25, .int 0, .int (-1), .int (-1)])), (w3, .inr (4, [.ref w26, .ref w27, .ref w28, .int 0, .int 0, .int 0, .int 45])), (w26, .inr (3, [.ref w1, .ref w2, .ref w29, .ref w30, .ref w31, .ref w32, .ref w33, .int 0, .int 0]))]) [0, 1, 9, 10, 11] rfl
          have hKc := hK.sub (tys' := []) [] rfl
          refine vx_calli (vx_runSX (As := [.ref w0, .int (((xs (1 : Int32).toNatClampNeg).toUInt32 % 65536).toInt32), .int (((xs (2 : Int32).toNatClampNeg).toUInt32 % 65536).toInt32), .int (xs (3 : Int32).toNatClampNeg), .int 0, .int 1, .int 0, .ref w52]) (rest := []) ⟨hx, hb, hml, hown, hq⟩ (c_L_role_no l hst tE adK adV dC dI w0 w1 w2 w3 w4 w5 w6 w7 w8 w9 w10 w11 w12 w13 w14 w15 w23 w24 w25 w26 w27 w28 w29 w30 w31 w32 w33 w52 (((xs (1 : Int32).toNatClampNeg).toUInt32 % 65536).toInt32) (((xs (2 : Int32).toNatClampNeg).toUInt32 % 65536).toInt32) (xs (3 : Int32).toNatClampNeg) 0 1 0 hok H.size) (tcSW 8 hq q_682 q_0 q_680 q_681 rfl rfl (by decide +kernel) ⟨Nat.le_of_ble_eq_true rfl, Nat.le_of_ble_eq_true rfl⟩) (preR.S (preR.of hPc hKc ham hS hA)) rfl rfl hl.1 rfl (lv_room (Nat.le_of_ble_eq_true rfl)) dL_law_281 ⟨Nat.le_of_ble_eq_true rfl, Nat.le_of_ble_eq_true rfl⟩) hS (fun q _ h => hA q (Nat.le_trans hS.1 h)) (fun q h => hA q (Nat.le_trans hS.1 h)) (fun q _ h => hA q (Nat.le_trans hS.1 h)) (fun E ce q9 u t H1 locs ht hvm hpx hB hz1 hk1 hS hce hcv hcl => ?_) (fun r_21 u t H1 locs ht hvm hw hB hz1 hk1 hS => ?_)
          · exact (hB : False).elim
          · have hP : va_P (dC, dI) cls [(w0, .inr (10, [.ref w1, .ref w2, .ref w3, .ref w4, .ref w5, .ref w6, .ref w7, .ref w8])), (w1, .inr (7, [.ref w9, .ref w10, .ref w11, .ref w12, .ref w13, .ref w14, .ref w15, .int 0])), (w9, .inl (w16, 8, .inl (fun _ => 0))), (w10, .inl (w17, 8, .inl (fun _ => 0))), (w11, .inl (w18, 8, .inl (fun _ => 0))), (w12, .inl (w19, 8, .inl (fun _ => 0))), (w13, .inl (w20, 8, .inl (fun _ => 0))), (w14, .inl (w21, 8, .inl (fun _ => 0))), (w15, .inl (w22, 8, .inl (fun _ => 0))), (w2, .inr (2, [.ref w23, .ref w24, .ref w25, .int 0, .int (-1), .int (-1)])), (w3, .inr (4, [.ref w26, .ref w27, .ref w28, .int 0, .int 0, .int 0, .int 45])), (w26, .inr (3, [.ref w1, .ref w2, .ref w29, .ref w30, .ref w31, .ref w32, .ref w33, .int 0, .int 0])), (w34, .inr (12, [.int 0, .ref w35, .ref w36, .ref w37, .int (-1), .int (-1), .int 0, .ref w38, .ref w39, .ref w40, .ref w41, .ref w42, .ref w43, .ref w44, .ref w45, .ref w46, .int 0, .int 0, .null, .int 0, .int 45, .ref w47, .ref w48, .ref w49, .ref w50, .ref w51])), (w35, .inr (14, [.int 0, .ref tE, .int 0])), (w36, .inr (14, [.int 0, .ref tE, .int 0])), (w52, .inl (w53, 1, .inr (.inl (fun _ => 0)))), (w54, .inl (w55, 1, .inr (.inr (.inr (.inl (fun _ => 0))))))] H1 := ro_keep hP hk1
            generalize H1 = H at hP hS ⊢
            refine W.widen (k := 92) (n := 4908) (Nat.le_of_ble_eq_true rfl) (Nat.le_of_ble_eq_true rfl) ?_
            have hw : r_21 = 1 := hw
            subst hw
            refine lv_istore (lv' := [(6, .int 1), (5, .int 0), (4, .ref w54), (3, .ref w52), (2, .ref w34), (1, .ref w0), (0, .ref b)]) hx hb dL_law_284 hl (by decide) rfl (fun ls hl => ?_)
            refine lv_aload_n hx hb dL_law_286 rfl (lv_at hl 4 rfl) ?_
            refine lv_aload_n hx hb dL_law_287 rfl (lv_at hl 6 rfl) ?_
            refine lv_iload hx hb dL_law_288 (lv_at hl 1 rfl) ?_
            refine lv_iconst (v := 1) hx hb dL_law_290 (by decide) ?_
            refine lv_iadd hx hb dL_law_291 ?_
            refine W.eq (congrArg (fun z : Int32 => F0 m 292 ls (.int z :: [.ref b, .ref w34])) (by decide : (0 + 1 : Int32) = 1)) ?_
            refine va_sld hx hb hX hbl hbA hS (i := 1) (by unfold vp_in; decide) dL_law_292 ?_
            refine lv_i2c (v := ((xs (1 : Int32).toNatClampNeg).toUInt32 % 65536).toInt32) hx hb dL_law_293 rfl ?_
            refine lv_aload_n hx hb dL_law_294 rfl (lv_at hl 6 rfl) ?_
            refine lv_iload hx hb dL_law_295 (lv_at hl 1 rfl) ?_
            refine lv_iconst (v := 2) hx hb dL_law_297 (by decide) ?_
            refine lv_iadd hx hb dL_law_298 ?_
            refine W.eq (congrArg (fun z : Int32 => F0 m 299 ls (.int z :: [.ref b, .int (((xs (1 : Int32).toNatClampNeg).toUInt32 % 65536).toInt32), .ref w34])) (by decide : (0 + 2 : Int32) = 2)) ?_
            refine va_sld hx hb hX hbl hbA hS (i := 2) (by unfold vp_in; decide) dL_law_299 ?_
            refine lv_i2c (v := ((xs (2 : Int32).toNatClampNeg).toUInt32 % 65536).toInt32) hx hb dL_law_300 rfl ?_
            refine lv_aload_n hx hb dL_law_301 rfl (lv_at hl 6 rfl) ?_
            refine lv_iload hx hb dL_law_302 (lv_at hl 1 rfl) ?_
            refine lv_iconst (v := 3) hx hb dL_law_304 (by decide) ?_
            refine lv_iadd hx hb dL_law_305 ?_
            refine W.eq (congrArg (fun z : Int32 => F0 m 306 ls (.int z :: [.ref b, .int (((xs (2 : Int32).toNatClampNeg).toUInt32 % 65536).toInt32), .int (((xs (1 : Int32).toNatClampNeg).toUInt32 % 65536).toInt32), .ref w34])) (by decide : (0 + 3 : Int32) = 3)) ?_
            refine va_sld hx hb hX hbl hbA hS (i := 3) (by unfold vp_in; decide) dL_law_306 ?_
            refine lv_aload_n hx hb dL_law_307 rfl (lv_at hl 6 rfl) ?_
            refine lv_iload hx hb dL_law_308 (lv_at hl 1 rfl) ?_
            refine lv_iconst (v := 4) hx hb dL_law_310 (by decide) ?_
            refine lv_iadd hx hb dL_law_311 ?_
            refine W.eq (congrArg (fun z : Int32 => F0 m 312 ls (.int z :: [.ref b, .int (xs (3 : Int32).toNatClampNeg), .int (((xs (2 : Int32).toNatClampNeg).toUInt32 % 65536).toInt32), .int (((xs (1 : Int32).toNatClampNeg).toUInt32 % 65536).toInt32), .ref w34])) (by decide : (0 + 4 : Int32) = 4)) ?_
            refine va_sld hx hb hX hbl hbA hS (i := 4) (by unfold vp_in; decide) dL_law_312 ?_
            refine lv_if_eq (tgt := 320) hx hb dL_law_313 (by decide) (fun c_22 => ?_) (fun c_22 => ?_)
            · refine lv_iconst (v := 0) hx hb dL_law_320 (by decide) ?_
              refine lv_aload_n hx hb dL_law_321 rfl (lv_at hl 6 rfl) ?_
              refine lv_iload hx hb dL_law_322 (lv_at hl 1 rfl) ?_
              refine lv_iconst (v := 5) hx hb dL_law_324 (by decide) ?_
              refine lv_iadd hx hb dL_law_325 ?_
              refine W.eq (congrArg (fun z : Int32 => F0 m 326 ls (.int z :: [.ref b, .int 0, .int (xs (3 : Int32).toNatClampNeg), .int (((xs (2 : Int32).toNatClampNeg).toUInt32 % 65536).toInt32), .int (((xs (1 : Int32).toNatClampNeg).toUInt32 % 65536).toInt32), .ref w34])) (by decide : (0 + 5 : Int32) = 5)) ?_
              refine va_sld hx hb hX hbl hbA hS (i := 5) (by unfold vp_in; decide) dL_law_326 ?_
              refine lv_if_eq (tgt := 334) hx hb dL_law_327 (by decide) (fun c_23 => ?_) (fun c_23 => ?_)
              · exact absurd c_23 c_2
              · refine lv_iconst (v := 1) hx hb dL_law_330 (by decide) ?_
                refine lv_goto (tgt := 335) hx hb dL_law_331 (by decide) ?_
                refine lv_aload_n hx hb dL_law_335 rfl (lv_at hl 6 rfl) ?_
                refine lv_iload hx hb dL_law_336 (lv_at hl 1 rfl) ?_
                refine lv_bipush (v := 6) hx hb dL_law_338 (by decide) ?_
                refine lv_iadd hx hb dL_law_340 ?_
                refine W.eq (congrArg (fun z : Int32 => F0 m 341 ls (.int z :: [.ref b, .int 1, .int 0, .int (xs (3 : Int32).toNatClampNeg), .int (((xs (2 : Int32).toNatClampNeg).toUInt32 % 65536).toInt32), .int (((xs (1 : Int32).toNatClampNeg).toUInt32 % 65536).toInt32), .ref w34])) (by decide : (0 + 6 : Int32) = 6)) ?_
                refine va_sld hx hb hX hbl hbA hS (i := 6) (by unfold vp_in; decide) dL_law_341 ?_
                refine lv_if_eq (tgt := 349) hx hb dL_law_342 (by decide) (fun c_24 => ?_) (fun c_24 => ?_)
                · refine lv_iconst (v := 0) hx hb dL_law_349 (by decide) ?_
                  have hPc := hP.sub (ws' := [(w34, .inr (12, [.int 0, .ref w35, .ref w36, .ref w37, .int (-1), .int (-1), .int 0, .ref w38, .ref w39, .ref w40, .ref w41, .ref w42, .ref w43, .ref w44, .ref w45, .ref w46, .int 0, .int 0, .null, .int 0, .int 45, .ref w47, .ref w48, .ref w49, .ref w50, .ref w51])), (w35, .inr (14, [.int 0, .ref tE, .int 0])), (w36, .inr (14, [.int 0, .ref tE, .int 0]))]) [12, 13, 14] rfl
                  have hKc := hK.sub (tys' := []) [] rfl
                  have hDc := hD.sub (ws' := [(w34, .inr (12, [.int 0, .ref w35, .ref w36, .ref w37, .int (-1), .int (-1), .int 0, .ref w38, .ref w39, .ref w40, .ref w41, .ref w42, .ref w43, .ref w44, .ref w45, .ref w46, .int 0, .int 0, .null, .int 0, .int 45, .ref w47, .ref w48, .ref w49, .ref w50, .ref w51])), (w35, .inr (14, [.int 0, .ref tE, .int 0])), (w36, .inr (14, [.int 0, .ref tE, .int 0]))]) [12, 13, 14] (by decide) rfl
                  have hFc := va_free (wc := [(w34, .inr (12, [.int 0, .ref w35, .ref w36, .ref w37, .int (-1), .int (-1), .int 0, .ref w38, .ref w39, .ref w40, .ref w41, .ref w42, .ref w43, .ref w44, .ref w45, .ref w46, .int 0, .int 0, .null, .int 0, .int 45, .ref w47, .ref w48, .ref w49, .ref w50, .ref w51])), (w35, .inr (14, [.int 0, .ref tE, .int 0])), (w36, .inr (14, [.int 0, .ref tE, .int 0]))]) hD hS hA [12, 13, 14] rfl
                  refine va_calli (va_runV (As := [.int (((xs (1 : Int32).toNatClampNeg).toUInt32 % 65536).toInt32), .int (((xs (2 : Int32).toNatClampNeg).toUInt32 % 65536).toInt32), .int (xs (3 : Int32).toNatClampNeg), .int 0, .int 1, .int 0]) (rest := []) ⟨hx, hb, hml, hown, hq⟩ (c_M_role_no l hst tE adK adV dC dI w34 w35 w36 w37 w38 w39 w40 w41 w42 w43 w44 w45 w46 w47 w48 w49 w50 w51 0 (((xs (1 : Int32).toNatClampNeg).toUInt32 % 65536).toInt32) (((xs (2 : Int32).toNatClampNeg).toUInt32 % 65536).toInt32) (xs (3 : Int32).toNatClampNeg) 0 1 0 hok H.size) (tcV 6 hq q_1386 q_12 q_1383 q_1384 q_1385 rfl rfl (by decide +kernel) ⟨Nat.le_of_ble_eq_true rfl, Nat.le_of_ble_eq_true rfl⟩) (pre.V (va_recv hK hP (ci := 12) (q0 := 12) rfl rfl) (pre.of hPc hDc hKc ham hS hFc)) rfl rfl hl.1 rfl (lv_room (Nat.le_of_ble_eq_true rfl)) dL_law_350 ⟨Nat.le_of_ble_eq_true rfl, Nat.le_of_ble_eq_true rfl⟩) hS (fun q _ h => hFc q h) hFc (fun r_25 u t H1 locs ht hvm hw hB hz1 hk1 hS => ?_)
                  obtain ⟨hP1, hK1, hD1⟩ := hB
                  rw [ht] at hP1
                  have hK1 := va_K.moved hvm.symm hK1
                  obtain ⟨hP, hD⟩ := va_join (wr := [(w0, .inr (10, [.ref w1, .ref w2, .ref w3, .ref w4, .ref w5, .ref w6, .ref w7, .ref w8])), (w1, .inr (7, [.ref w9, .ref w10, .ref w11, .ref w12, .ref w13, .ref w14, .ref w15, .int 0])), (w9, .inl (w16, 8, .inl (fun _ => 0))), (w10, .inl (w17, 8, .inl (fun _ => 0))), (w11, .inl (w18, 8, .inl (fun _ => 0))), (w12, .inl (w19, 8, .inl (fun _ => 0))), (w13, .inl (w20, 8, .inl (fun _ => 0))), (w14, .inl (w21, 8, .inl (fun _ => 0))), (w15, .inl (w22, 8, .inl (fun _ => 0))), (w2, .inr (2, [.ref w23, .ref w24, .ref w25, .int 0, .int (-1), .int (-1)])), (w3, .inr (4, [.ref w26, .ref w27, .ref w28, .int 0, .int 0, .int 0, .int 45])), (w26, .inr (3, [.ref w1, .ref w2, .ref w29, .ref w30, .ref w31, .ref w32, .ref w33, .int 0, .int 0])), (w52, .inl (w53, 1, .inr (.inl (fun _ => 0)))), (w54, .inl (w55, 1, .inr (.inr (.inr (.inl (fun _ => 0))))))]) (w1 := [(w34, .inr (12, [.int 1, .ref w35, .ref w36, .ref w37, .int (-1), .int (-1), .int 0, .ref w38, .ref w39, .ref w40, .ref w41, .ref w42, .ref w43, .ref w44, .ref w45, .ref w46, .int 0, .int 0, .null, .int 0, .int 45, .ref w47, .ref w48, .ref w49, .ref w50, .ref w51]))]) (wc := [(w34, .inr (12, [.int 0, .ref w35, .ref w36, .ref w37, .int (-1), .int (-1), .int 0, .ref w38, .ref w39, .ref w40, .ref w41, .ref w42, .ref w43, .ref w44, .ref w45, .ref w46, .int 0, .int 0, .null, .int 0, .int 45, .ref w47, .ref w48, .ref w49, .ref w50, .ref w51])), (w35, .inr (14, [.int 0, .ref tE, .int 0])), (w36, .inr (14, [.int 0, .ref tE, .int 0]))]) hP hD [12, 13, 14] [0, 1, 2, 3, 4, 5, 6, 7, 8, 9, 10, 11, 15, 16] rfl rfl (by decide) (by decide) hk1 hFc hP1 hD1
                  have hK := (hK.sub (tys' := [(w16, .char), (w17, .char), (w18, .int), (w19, .boolean), (w20, .boolean), (w21, .boolean), (w22, .int), (w53, .long), (w55, .double)]) [0, 1, 2, 3, 4, 5, 6, 7, 8] rfl).app hK1
                  generalize H1 = H at hP hS ⊢
                  have hP : va_P (dC, dI) cls [(w0, .inr (10, [.ref w1, .ref w2, .ref w3, .ref w4, .ref w5, .ref w6, .ref w7, .ref w8])), (w1, .inr (7, [.ref w9, .ref w10, .ref w11, .ref w12, .ref w13, .ref w14, .ref w15, .int 0])), (w9, .inl (w16, 8, .inl (fun _ => 0))), (w10, .inl (w17, 8, .inl (fun _ => 0))), (w11, .inl (w18, 8, .inl (fun _ => 0))), (w12, .inl (w19, 8, .inl (fun _ => 0))), (w13, .inl (w20, 8, .inl (fun _ => 0))), (w14, .inl (w21, 8, .inl (fun _ => 0))), (w15, .inl (w22, 8, .inl (fun _ => 0))), (w2, .inr (2, [.ref w23, .ref w24, .ref w25, .int 0, .int (-1), .int (-1)])), (w3, .inr (4, [.ref w26, .ref w27, .ref w28, .int 0, .int 0, .int 0, .int 45])), (w26, .inr (3, [.ref w1, .ref w2, .ref w29, .ref w30, .ref w31, .ref w32, .ref w33, .int 0, .int 0])), (w52, .inl (w53, 1, .inr (.inl (fun _ => 0)))), (w54, .inl (w55, 1, .inr (.inr (.inr (.inl (fun _ => 0)))))), (w34, .inr (12, [.int 1, .ref w35, .ref w36, .ref w37, .int (-1), .int (-1), .int 0, .ref w38, .ref w39, .ref w40, .ref w41, .ref w42, .ref w43, .ref w44, .ref w45, .ref w46, .int 0, .int 0, .null, .int 0, .int 45, .ref w47, .ref w48, .ref w49, .ref w50, .ref w51]))] H := hP
                  have hD : va_D A [(w0, .inr (10, [.ref w1, .ref w2, .ref w3, .ref w4, .ref w5, .ref w6, .ref w7, .ref w8])), (w1, .inr (7, [.ref w9, .ref w10, .ref w11, .ref w12, .ref w13, .ref w14, .ref w15, .int 0])), (w9, .inl (w16, 8, .inl (fun _ => 0))), (w10, .inl (w17, 8, .inl (fun _ => 0))), (w11, .inl (w18, 8, .inl (fun _ => 0))), (w12, .inl (w19, 8, .inl (fun _ => 0))), (w13, .inl (w20, 8, .inl (fun _ => 0))), (w14, .inl (w21, 8, .inl (fun _ => 0))), (w15, .inl (w22, 8, .inl (fun _ => 0))), (w2, .inr (2, [.ref w23, .ref w24, .ref w25, .int 0, .int (-1), .int (-1)])), (w3, .inr (4, [.ref w26, .ref w27, .ref w28, .int 0, .int 0, .int 0, .int 45])), (w26, .inr (3, [.ref w1, .ref w2, .ref w29, .ref w30, .ref w31, .ref w32, .ref w33, .int 0, .int 0])), (w52, .inl (w53, 1, .inr (.inl (fun _ => 0)))), (w54, .inl (w55, 1, .inr (.inr (.inr (.inl (fun _ => 0)))))), (w34, .inr (12, [.int 1, .ref w35, .ref w36, .ref w37, .int (-1), .int (-1), .int 0, .ref w38, .ref w39, .ref w40, .ref w41, .ref w42, .ref w43, .ref w44, .ref w45, .ref w46, .int 0, .int 0, .null, .int 0, .int 45, .ref w47, .ref w48, .ref w49, .ref w50, .ref w51]))] := hD
                  have hK : va_K (dC, dI) cls [(w16, .char), (w17, .char), (w18, .int), (w19, .boolean), (w20, .boolean), (w21, .boolean), (w22, .int), (w53, .long), (w55, .double)] s := hK
                  refine W.widen (k := 92) (n := 4908) (Nat.le_of_ble_eq_true rfl) (Nat.le_of_ble_eq_true rfl) ?_
                  refine lv_istore (lv' := [(7, .int r_25), (6, .int 1), (5, .int 0), (4, .ref w54), (3, .ref w52), (2, .ref w34), (1, .ref w0), (0, .ref b)]) hx hb dL_law_353 hl (by decide) rfl (fun ls hl => ?_)
                  refine lv_aload_n hx hb dL_law_355 rfl (lv_at hl 5 rfl) ?_
                  have hPc := hP.sub (ws' := [(w34, .inr (12, [.int 1, .ref w35, .ref w36, .ref w37, .int (-1), .int (-1), .int 0, .ref w38, .ref w39, .ref w40, .ref w41, .ref w42, .ref w43, .ref w44, .ref w45, .ref w46, .int 0, .int 0, .null, .int 0, .int 45, .ref w47, .ref w48, .ref w49, .ref w50, .ref w51]))]) [14] rfl
                  have hKc := hK.sub (tys' := []) [] rfl
                  refine va_calli (va_runV (As := []) (rest := []) ⟨hx, hb, hml, hown, hq⟩ (c_thrown l hst tE adK adV dC dI w34 w35 w36 w37 w38 w39 w40 w41 w42 w43 w44 w45 w46 w47 w48 w49 w50 w51 1 H.size) (tcV 0 hq q_1264 q_12 q_1261 q_1262 q_1263 rfl rfl (by decide +kernel) ⟨Nat.le_of_ble_eq_true rfl, Nat.le_of_ble_eq_true rfl⟩) (preR.V (va_recv hK hP (ci := 12) (q0 := 14) rfl rfl) (preR.of hPc hKc ham hS hA)) rfl rfl hl.1 rfl (lv_room (Nat.le_of_ble_eq_true rfl)) dL_law_356 ⟨Nat.le_of_ble_eq_true rfl, Nat.le_of_ble_eq_true rfl⟩) hS (fun q _ h => hA q (Nat.le_trans hS.1 h)) (fun q h => hA q (Nat.le_trans hS.1 h)) (fun r_26 u t H1 locs ht hvm hw hB hz1 hk1 hS => ?_)
                  have hP : va_P (dC, dI) cls [(w0, .inr (10, [.ref w1, .ref w2, .ref w3, .ref w4, .ref w5, .ref w6, .ref w7, .ref w8])), (w1, .inr (7, [.ref w9, .ref w10, .ref w11, .ref w12, .ref w13, .ref w14, .ref w15, .int 0])), (w9, .inl (w16, 8, .inl (fun _ => 0))), (w10, .inl (w17, 8, .inl (fun _ => 0))), (w11, .inl (w18, 8, .inl (fun _ => 0))), (w12, .inl (w19, 8, .inl (fun _ => 0))), (w13, .inl (w20, 8, .inl (fun _ => 0))), (w14, .inl (w21, 8, .inl (fun _ => 0))), (w15, .inl (w22, 8, .inl (fun _ => 0))), (w2, .inr (2, [.ref w23, .ref w24, .ref w25, .int 0, .int (-1), .int (-1)])), (w3, .inr (4, [.ref w26, .ref w27, .ref w28, .int 0, .int 0, .int 0, .int 45])), (w26, .inr (3, [.ref w1, .ref w2, .ref w29, .ref w30, .ref w31, .ref w32, .ref w33, .int 0, .int 0])), (w52, .inl (w53, 1, .inr (.inl (fun _ => 0)))), (w54, .inl (w55, 1, .inr (.inr (.inr (.inl (fun _ => 0)))))), (w34, .inr (12, [.int 1, .ref w35, .ref w36, .ref w37, .int (-1), .int (-1), .int 0, .ref w38, .ref w39, .ref w40, .ref w41, .ref w42, .ref w43, .ref w44, .ref w45, .ref w46, .int 0, .int 0, .null, .int 0, .int 45, .ref w47, .ref w48, .ref w49, .ref w50, .ref w51]))] H1 := ro_keep hP hk1
                  generalize H1 = H at hP hS ⊢
                  refine W.widen (k := 92) (n := 4908) (Nat.le_of_ble_eq_true rfl) (Nat.le_of_ble_eq_true rfl) ?_
                  have hw : r_26 = 1 := hw
                  subst hw
                  refine lv_iload hx hb dL_law_359 (lv_at hl 1 rfl) ?_
                  refine lv_icmp_eq (tgt := 366) hx hb dL_law_361 (by decide) (fun c_27 => ?_) (fun c_27 => ?_)
                  · refine lv_iload hx hb dL_law_366 (lv_at hl 1 rfl) ?_
                    refine lv_if_ne (tgt := 383) hx hb dL_law_368 (by decide) (fun c_28 => ?_) (fun c_28 => ?_)
                    · refine lv_goto (tgt := 2585) hx hb dL_law_383 (by decide) ?_
                      refine W.widen (k := 600002) (n := 7302232) (Nat.le_of_ble_eq_true rfl) (Nat.le_of_ble_eq_true rfl) ?_
                      exact law_end C0 hA hA2 hS (lv_sub hl [7, 2] rfl)
                    · exact absurd c_28 (by decide)
                  · exact absurd c_27 (by decide)
                · exact absurd c_20 c_24
            · exact absurd c_1 c_22
        · refine lv_iconst (v := 1) hx hb dL_law_275 (by decide) ?_
          refine lv_goto (tgt := 280) hx hb dL_law_276 (by decide) ?_
          refine lv_aload_n hx hb dL_law_280 rfl (lv_at hl 2 rfl) ?_
          have hPc := hP.sub (ws' := [(w0, .inr (10, [.ref w1, .ref w2, .ref w3, .ref w4, .ref w5, .ref w6, .ref w7, .ref w8])), (w1, .inr (7, [.ref w9, .ref w10, .ref w11, .ref w12, .ref w13, .ref w14, .ref w15, .int 0])), (w2, .inr (2, [.ref w23, .ref w24, .ref w25, .int 0, .int (-1), .int (-1)])), (w3, .inr (4, [.ref w26, .ref w27, .ref w28, .int 0, .int 0, .int 0, .int 45])), (w26, .inr (3, [.ref w1, .ref w2, .ref w29, .ref w30, .ref w31, .ref w32, .ref w33, .int 0, .int 0]))]) [0, 1, 9, 10, 11] rfl
          have hKc := hK.sub (tys' := []) [] rfl
          refine vx_calli (vx_runSX (As := [.ref w0, .int (((xs (1 : Int32).toNatClampNeg).toUInt32 % 65536).toInt32), .int (((xs (2 : Int32).toNatClampNeg).toUInt32 % 65536).toInt32), .int (xs (3 : Int32).toNatClampNeg), .int 0, .int 1, .int 1, .ref w52]) (rest := []) ⟨hx, hb, hml, hown, hq⟩ (c_L_role_no l hst tE adK adV dC dI w0 w1 w2 w3 w4 w5 w6 w7 w8 w9 w10 w11 w12 w13 w14 w15 w23 w24 w25 w26 w27 w28 w29 w30 w31 w32 w33 w52 (((xs (1 : Int32).toNatClampNeg).toUInt32 % 65536).toInt32) (((xs (2 : Int32).toNatClampNeg).toUInt32 % 65536).toInt32) (xs (3 : Int32).toNatClampNeg) 0 1 1 hok H.size) (tcSW 8 hq q_682 q_0 q_680 q_681 rfl rfl (by decide +kernel) ⟨Nat.le_of_ble_eq_true rfl, Nat.le_of_ble_eq_true rfl⟩) (preR.S (preR.of hPc hKc ham hS hA)) rfl rfl hl.1 rfl (lv_room (Nat.le_of_ble_eq_true rfl)) dL_law_281 ⟨Nat.le_of_ble_eq_true rfl, Nat.le_of_ble_eq_true rfl⟩) hS (fun q _ h => hA q (Nat.le_trans hS.1 h)) (fun q h => hA q (Nat.le_trans hS.1 h)) (fun q _ h => hA q (Nat.le_trans hS.1 h)) (fun E ce q9 u t H1 locs ht hvm hpx hB hz1 hk1 hS hce hcv hcl => ?_) (fun r_29 u t H1 locs ht hvm hw hB hz1 hk1 hS => ?_)
          · exact (hB : False).elim
          · have hP : va_P (dC, dI) cls [(w0, .inr (10, [.ref w1, .ref w2, .ref w3, .ref w4, .ref w5, .ref w6, .ref w7, .ref w8])), (w1, .inr (7, [.ref w9, .ref w10, .ref w11, .ref w12, .ref w13, .ref w14, .ref w15, .int 0])), (w9, .inl (w16, 8, .inl (fun _ => 0))), (w10, .inl (w17, 8, .inl (fun _ => 0))), (w11, .inl (w18, 8, .inl (fun _ => 0))), (w12, .inl (w19, 8, .inl (fun _ => 0))), (w13, .inl (w20, 8, .inl (fun _ => 0))), (w14, .inl (w21, 8, .inl (fun _ => 0))), (w15, .inl (w22, 8, .inl (fun _ => 0))), (w2, .inr (2, [.ref w23, .ref w24, .ref w25, .int 0, .int (-1), .int (-1)])), (w3, .inr (4, [.ref w26, .ref w27, .ref w28, .int 0, .int 0, .int 0, .int 45])), (w26, .inr (3, [.ref w1, .ref w2, .ref w29, .ref w30, .ref w31, .ref w32, .ref w33, .int 0, .int 0])), (w34, .inr (12, [.int 0, .ref w35, .ref w36, .ref w37, .int (-1), .int (-1), .int 0, .ref w38, .ref w39, .ref w40, .ref w41, .ref w42, .ref w43, .ref w44, .ref w45, .ref w46, .int 0, .int 0, .null, .int 0, .int 45, .ref w47, .ref w48, .ref w49, .ref w50, .ref w51])), (w35, .inr (14, [.int 0, .ref tE, .int 0])), (w36, .inr (14, [.int 0, .ref tE, .int 0])), (w52, .inl (w53, 1, .inr (.inl (fun _ => 0)))), (w54, .inl (w55, 1, .inr (.inr (.inr (.inl (fun _ => 0))))))] H1 := ro_keep hP hk1
            generalize H1 = H at hP hS ⊢
            refine W.widen (k := 92) (n := 4908) (Nat.le_of_ble_eq_true rfl) (Nat.le_of_ble_eq_true rfl) ?_
            have hw : r_29 = 1 := hw
            subst hw
            refine lv_istore (lv' := [(6, .int 1), (5, .int 0), (4, .ref w54), (3, .ref w52), (2, .ref w34), (1, .ref w0), (0, .ref b)]) hx hb dL_law_284 hl (by decide) rfl (fun ls hl => ?_)
            refine lv_aload_n hx hb dL_law_286 rfl (lv_at hl 4 rfl) ?_
            refine lv_aload_n hx hb dL_law_287 rfl (lv_at hl 6 rfl) ?_
            refine lv_iload hx hb dL_law_288 (lv_at hl 1 rfl) ?_
            refine lv_iconst (v := 1) hx hb dL_law_290 (by decide) ?_
            refine lv_iadd hx hb dL_law_291 ?_
            refine W.eq (congrArg (fun z : Int32 => F0 m 292 ls (.int z :: [.ref b, .ref w34])) (by decide : (0 + 1 : Int32) = 1)) ?_
            refine va_sld hx hb hX hbl hbA hS (i := 1) (by unfold vp_in; decide) dL_law_292 ?_
            refine lv_i2c (v := ((xs (1 : Int32).toNatClampNeg).toUInt32 % 65536).toInt32) hx hb dL_law_293 rfl ?_
            refine lv_aload_n hx hb dL_law_294 rfl (lv_at hl 6 rfl) ?_
            refine lv_iload hx hb dL_law_295 (lv_at hl 1 rfl) ?_
            refine lv_iconst (v := 2) hx hb dL_law_297 (by decide) ?_
            refine lv_iadd hx hb dL_law_298 ?_
            refine W.eq (congrArg (fun z : Int32 => F0 m 299 ls (.int z :: [.ref b, .int (((xs (1 : Int32).toNatClampNeg).toUInt32 % 65536).toInt32), .ref w34])) (by decide : (0 + 2 : Int32) = 2)) ?_
            refine va_sld hx hb hX hbl hbA hS (i := 2) (by unfold vp_in; decide) dL_law_299 ?_
            refine lv_i2c (v := ((xs (2 : Int32).toNatClampNeg).toUInt32 % 65536).toInt32) hx hb dL_law_300 rfl ?_
            refine lv_aload_n hx hb dL_law_301 rfl (lv_at hl 6 rfl) ?_
            refine lv_iload hx hb dL_law_302 (lv_at hl 1 rfl) ?_
            refine lv_iconst (v := 3) hx hb dL_law_304 (by decide) ?_
            refine lv_iadd hx hb dL_law_305 ?_
            refine W.eq (congrArg (fun z : Int32 => F0 m 306 ls (.int z :: [.ref b, .int (((xs (2 : Int32).toNatClampNeg).toUInt32 % 65536).toInt32), .int (((xs (1 : Int32).toNatClampNeg).toUInt32 % 65536).toInt32), .ref w34])) (by decide : (0 + 3 : Int32) = 3)) ?_
            refine va_sld hx hb hX hbl hbA hS (i := 3) (by unfold vp_in; decide) dL_law_306 ?_
            refine lv_aload_n hx hb dL_law_307 rfl (lv_at hl 6 rfl) ?_
            refine lv_iload hx hb dL_law_308 (lv_at hl 1 rfl) ?_
            refine lv_iconst (v := 4) hx hb dL_law_310 (by decide) ?_
            refine lv_iadd hx hb dL_law_311 ?_
            refine W.eq (congrArg (fun z : Int32 => F0 m 312 ls (.int z :: [.ref b, .int (xs (3 : Int32).toNatClampNeg), .int (((xs (2 : Int32).toNatClampNeg).toUInt32 % 65536).toInt32), .int (((xs (1 : Int32).toNatClampNeg).toUInt32 % 65536).toInt32), .ref w34])) (by decide : (0 + 4 : Int32) = 4)) ?_
            refine va_sld hx hb hX hbl hbA hS (i := 4) (by unfold vp_in; decide) dL_law_312 ?_
            refine lv_if_eq (tgt := 320) hx hb dL_law_313 (by decide) (fun c_30 => ?_) (fun c_30 => ?_)
            · refine lv_iconst (v := 0) hx hb dL_law_320 (by decide) ?_
              refine lv_aload_n hx hb dL_law_321 rfl (lv_at hl 6 rfl) ?_
              refine lv_iload hx hb dL_law_322 (lv_at hl 1 rfl) ?_
              refine lv_iconst (v := 5) hx hb dL_law_324 (by decide) ?_
              refine lv_iadd hx hb dL_law_325 ?_
              refine W.eq (congrArg (fun z : Int32 => F0 m 326 ls (.int z :: [.ref b, .int 0, .int (xs (3 : Int32).toNatClampNeg), .int (((xs (2 : Int32).toNatClampNeg).toUInt32 % 65536).toInt32), .int (((xs (1 : Int32).toNatClampNeg).toUInt32 % 65536).toInt32), .ref w34])) (by decide : (0 + 5 : Int32) = 5)) ?_
              refine va_sld hx hb hX hbl hbA hS (i := 5) (by unfold vp_in; decide) dL_law_326 ?_
              refine lv_if_eq (tgt := 334) hx hb dL_law_327 (by decide) (fun c_31 => ?_) (fun c_31 => ?_)
              · exact absurd c_31 c_2
              · refine lv_iconst (v := 1) hx hb dL_law_330 (by decide) ?_
                refine lv_goto (tgt := 335) hx hb dL_law_331 (by decide) ?_
                refine lv_aload_n hx hb dL_law_335 rfl (lv_at hl 6 rfl) ?_
                refine lv_iload hx hb dL_law_336 (lv_at hl 1 rfl) ?_
                refine lv_bipush (v := 6) hx hb dL_law_338 (by decide) ?_
                refine lv_iadd hx hb dL_law_340 ?_
                refine W.eq (congrArg (fun z : Int32 => F0 m 341 ls (.int z :: [.ref b, .int 1, .int 0, .int (xs (3 : Int32).toNatClampNeg), .int (((xs (2 : Int32).toNatClampNeg).toUInt32 % 65536).toInt32), .int (((xs (1 : Int32).toNatClampNeg).toUInt32 % 65536).toInt32), .ref w34])) (by decide : (0 + 6 : Int32) = 6)) ?_
                refine va_sld hx hb hX hbl hbA hS (i := 6) (by unfold vp_in; decide) dL_law_341 ?_
                refine lv_if_eq (tgt := 349) hx hb dL_law_342 (by decide) (fun c_32 => ?_) (fun c_32 => ?_)
                · exact absurd c_32 c_20
                · refine lv_iconst (v := 1) hx hb dL_law_345 (by decide) ?_
                  refine lv_goto (tgt := 350) hx hb dL_law_346 (by decide) ?_
                  have hPc := hP.sub (ws' := [(w34, .inr (12, [.int 0, .ref w35, .ref w36, .ref w37, .int (-1), .int (-1), .int 0, .ref w38, .ref w39, .ref w40, .ref w41, .ref w42, .ref w43, .ref w44, .ref w45, .ref w46, .int 0, .int 0, .null, .int 0, .int 45, .ref w47, .ref w48, .ref w49, .ref w50, .ref w51])), (w35, .inr (14, [.int 0, .ref tE, .int 0])), (w36, .inr (14, [.int 0, .ref tE, .int 0]))]) [12, 13, 14] rfl
                  have hKc := hK.sub (tys' := []) [] rfl
                  have hDc := hD.sub (ws' := [(w34, .inr (12, [.int 0, .ref w35, .ref w36, .ref w37, .int (-1), .int (-1), .int 0, .ref w38, .ref w39, .ref w40, .ref w41, .ref w42, .ref w43, .ref w44, .ref w45, .ref w46, .int 0, .int 0, .null, .int 0, .int 45, .ref w47, .ref w48, .ref w49, .ref w50, .ref w51])), (w35, .inr (14, [.int 0, .ref tE, .int 0])), (w36, .inr (14, [.int 0, .ref tE, .int 0]))]) [12, 13, 14] (by decide) rfl
                  have hFc := va_free (wc := [(w34, .inr (12, [.int 0, .ref w35, .ref w36, .ref w37, .int (-1), .int (-1), .int 0, .ref w38, .ref w39, .ref w40, .ref w41, .ref w42, .ref w43, .ref w44, .ref w45, .ref w46, .int 0, .int 0, .null, .int 0, .int 45, .ref w47, .ref w48, .ref w49, .ref w50, .ref w51])), (w35, .inr (14, [.int 0, .ref tE, .int 0])), (w36, .inr (14, [.int 0, .ref tE, .int 0]))]) hD hS hA [12, 13, 14] rfl
                  refine va_calli (va_runV (As := [.int (((xs (1 : Int32).toNatClampNeg).toUInt32 % 65536).toInt32), .int (((xs (2 : Int32).toNatClampNeg).toUInt32 % 65536).toInt32), .int (xs (3 : Int32).toNatClampNeg), .int 0, .int 1, .int 1]) (rest := []) ⟨hx, hb, hml, hown, hq⟩ (c_M_role_no l hst tE adK adV dC dI w34 w35 w36 w37 w38 w39 w40 w41 w42 w43 w44 w45 w46 w47 w48 w49 w50 w51 0 (((xs (1 : Int32).toNatClampNeg).toUInt32 % 65536).toInt32) (((xs (2 : Int32).toNatClampNeg).toUInt32 % 65536).toInt32) (xs (3 : Int32).toNatClampNeg) 0 1 1 hok H.size) (tcV 6 hq q_1386 q_12 q_1383 q_1384 q_1385 rfl rfl (by decide +kernel) ⟨Nat.le_of_ble_eq_true rfl, Nat.le_of_ble_eq_true rfl⟩) (pre.V (va_recv hK hP (ci := 12) (q0 := 12) rfl rfl) (pre.of hPc hDc hKc ham hS hFc)) rfl rfl hl.1 rfl (lv_room (Nat.le_of_ble_eq_true rfl)) dL_law_350 ⟨Nat.le_of_ble_eq_true rfl, Nat.le_of_ble_eq_true rfl⟩) hS (fun q _ h => hFc q h) hFc (fun r_33 u t H1 locs ht hvm hw hB hz1 hk1 hS => ?_)
                  obtain ⟨hP1, hK1, hD1⟩ := hB
                  rw [ht] at hP1
                  have hK1 := va_K.moved hvm.symm hK1
                  obtain ⟨hP, hD⟩ := va_join (wr := [(w0, .inr (10, [.ref w1, .ref w2, .ref w3, .ref w4, .ref w5, .ref w6, .ref w7, .ref w8])), (w1, .inr (7, [.ref w9, .ref w10, .ref w11, .ref w12, .ref w13, .ref w14, .ref w15, .int 0])), (w9, .inl (w16, 8, .inl (fun _ => 0))), (w10, .inl (w17, 8, .inl (fun _ => 0))), (w11, .inl (w18, 8, .inl (fun _ => 0))), (w12, .inl (w19, 8, .inl (fun _ => 0))), (w13, .inl (w20, 8, .inl (fun _ => 0))), (w14, .inl (w21, 8, .inl (fun _ => 0))), (w15, .inl (w22, 8, .inl (fun _ => 0))), (w2, .inr (2, [.ref w23, .ref w24, .ref w25, .int 0, .int (-1), .int (-1)])), (w3, .inr (4, [.ref w26, .ref w27, .ref w28, .int 0, .int 0, .int 0, .int 45])), (w26, .inr (3, [.ref w1, .ref w2, .ref w29, .ref w30, .ref w31, .ref w32, .ref w33, .int 0, .int 0])), (w52, .inl (w53, 1, .inr (.inl (fun _ => 0)))), (w54, .inl (w55, 1, .inr (.inr (.inr (.inl (fun _ => 0))))))]) (w1 := [(w34, .inr (12, [.int 1, .ref w35, .ref w36, .ref w37, .int (-1), .int (-1), .int 0, .ref w38, .ref w39, .ref w40, .ref w41, .ref w42, .ref w43, .ref w44, .ref w45, .ref w46, .int 0, .int 0, .null, .int 0, .int 45, .ref w47, .ref w48, .ref w49, .ref w50, .ref w51]))]) (wc := [(w34, .inr (12, [.int 0, .ref w35, .ref w36, .ref w37, .int (-1), .int (-1), .int 0, .ref w38, .ref w39, .ref w40, .ref w41, .ref w42, .ref w43, .ref w44, .ref w45, .ref w46, .int 0, .int 0, .null, .int 0, .int 45, .ref w47, .ref w48, .ref w49, .ref w50, .ref w51])), (w35, .inr (14, [.int 0, .ref tE, .int 0])), (w36, .inr (14, [.int 0, .ref tE, .int 0]))]) hP hD [12, 13, 14] [0, 1, 2, 3, 4, 5, 6, 7, 8, 9, 10, 11, 15, 16] rfl rfl (by decide) (by decide) hk1 hFc hP1 hD1
                  have hK := (hK.sub (tys' := [(w16, .char), (w17, .char), (w18, .int), (w19, .boolean), (w20, .boolean), (w21, .boolean), (w22, .int), (w53, .long), (w55, .double)]) [0, 1, 2, 3, 4, 5, 6, 7, 8] rfl).app hK1
                  generalize H1 = H at hP hS ⊢
                  have hP : va_P (dC, dI) cls [(w0, .inr (10, [.ref w1, .ref w2, .ref w3, .ref w4, .ref w5, .ref w6, .ref w7, .ref w8])), (w1, .inr (7, [.ref w9, .ref w10, .ref w11, .ref w12, .ref w13, .ref w14, .ref w15, .int 0])), (w9, .inl (w16, 8, .inl (fun _ => 0))), (w10, .inl (w17, 8, .inl (fun _ => 0))), (w11, .inl (w18, 8, .inl (fun _ => 0))), (w12, .inl (w19, 8, .inl (fun _ => 0))), (w13, .inl (w20, 8, .inl (fun _ => 0))), (w14, .inl (w21, 8, .inl (fun _ => 0))), (w15, .inl (w22, 8, .inl (fun _ => 0))), (w2, .inr (2, [.ref w23, .ref w24, .ref w25, .int 0, .int (-1), .int (-1)])), (w3, .inr (4, [.ref w26, .ref w27, .ref w28, .int 0, .int 0, .int 0, .int 45])), (w26, .inr (3, [.ref w1, .ref w2, .ref w29, .ref w30, .ref w31, .ref w32, .ref w33, .int 0, .int 0])), (w52, .inl (w53, 1, .inr (.inl (fun _ => 0)))), (w54, .inl (w55, 1, .inr (.inr (.inr (.inl (fun _ => 0)))))), (w34, .inr (12, [.int 1, .ref w35, .ref w36, .ref w37, .int (-1), .int (-1), .int 0, .ref w38, .ref w39, .ref w40, .ref w41, .ref w42, .ref w43, .ref w44, .ref w45, .ref w46, .int 0, .int 0, .null, .int 0, .int 45, .ref w47, .ref w48, .ref w49, .ref w50, .ref w51]))] H := hP
                  have hD : va_D A [(w0, .inr (10, [.ref w1, .ref w2, .ref w3, .ref w4, .ref w5, .ref w6, .ref w7, .ref w8])), (w1, .inr (7, [.ref w9, .ref w10, .ref w11, .ref w12, .ref w13, .ref w14, .ref w15, .int 0])), (w9, .inl (w16, 8, .inl (fun _ => 0))), (w10, .inl (w17, 8, .inl (fun _ => 0))), (w11, .inl (w18, 8, .inl (fun _ => 0))), (w12, .inl (w19, 8, .inl (fun _ => 0))), (w13, .inl (w20, 8, .inl (fun _ => 0))), (w14, .inl (w21, 8, .inl (fun _ => 0))), (w15, .inl (w22, 8, .inl (fun _ => 0))), (w2, .inr (2, [.ref w23, .ref w24, .ref w25, .int 0, .int (-1), .int (-1)])), (w3, .inr (4, [.ref w26, .ref w27, .ref w28, .int 0, .int 0, .int 0, .int 45])), (w26, .inr (3, [.ref w1, .ref w2, .ref w29, .ref w30, .ref w31, .ref w32, .ref w33, .int 0, .int 0])), (w52, .inl (w53, 1, .inr (.inl (fun _ => 0)))), (w54, .inl (w55, 1, .inr (.inr (.inr (.inl (fun _ => 0)))))), (w34, .inr (12, [.int 1, .ref w35, .ref w36, .ref w37, .int (-1), .int (-1), .int 0, .ref w38, .ref w39, .ref w40, .ref w41, .ref w42, .ref w43, .ref w44, .ref w45, .ref w46, .int 0, .int 0, .null, .int 0, .int 45, .ref w47, .ref w48, .ref w49, .ref w50, .ref w51]))] := hD
                  have hK : va_K (dC, dI) cls [(w16, .char), (w17, .char), (w18, .int), (w19, .boolean), (w20, .boolean), (w21, .boolean), (w22, .int), (w53, .long), (w55, .double)] s := hK
                  refine W.widen (k := 92) (n := 4908) (Nat.le_of_ble_eq_true rfl) (Nat.le_of_ble_eq_true rfl) ?_
                  refine lv_istore (lv' := [(7, .int r_33), (6, .int 1), (5, .int 0), (4, .ref w54), (3, .ref w52), (2, .ref w34), (1, .ref w0), (0, .ref b)]) hx hb dL_law_353 hl (by decide) rfl (fun ls hl => ?_)
                  refine lv_aload_n hx hb dL_law_355 rfl (lv_at hl 5 rfl) ?_
                  have hPc := hP.sub (ws' := [(w34, .inr (12, [.int 1, .ref w35, .ref w36, .ref w37, .int (-1), .int (-1), .int 0, .ref w38, .ref w39, .ref w40, .ref w41, .ref w42, .ref w43, .ref w44, .ref w45, .ref w46, .int 0, .int 0, .null, .int 0, .int 45, .ref w47, .ref w48, .ref w49, .ref w50, .ref w51]))]) [14] rfl
                  have hKc := hK.sub (tys' := []) [] rfl
                  refine va_calli (va_runV (As := []) (rest := []) ⟨hx, hb, hml, hown, hq⟩ (c_thrown l hst tE adK adV dC dI w34 w35 w36 w37 w38 w39 w40 w41 w42 w43 w44 w45 w46 w47 w48 w49 w50 w51 1 H.size) (tcV 0 hq q_1264 q_12 q_1261 q_1262 q_1263 rfl rfl (by decide +kernel) ⟨Nat.le_of_ble_eq_true rfl, Nat.le_of_ble_eq_true rfl⟩) (preR.V (va_recv hK hP (ci := 12) (q0 := 14) rfl rfl) (preR.of hPc hKc ham hS hA)) rfl rfl hl.1 rfl (lv_room (Nat.le_of_ble_eq_true rfl)) dL_law_356 ⟨Nat.le_of_ble_eq_true rfl, Nat.le_of_ble_eq_true rfl⟩) hS (fun q _ h => hA q (Nat.le_trans hS.1 h)) (fun q h => hA q (Nat.le_trans hS.1 h)) (fun r_34 u t H1 locs ht hvm hw hB hz1 hk1 hS => ?_)
                  have hP : va_P (dC, dI) cls [(w0, .inr (10, [.ref w1, .ref w2, .ref w3, .ref w4, .ref w5, .ref w6, .ref w7, .ref w8])), (w1, .inr (7, [.ref w9, .ref w10, .ref w11, .ref w12, .ref w13, .ref w14, .ref w15, .int 0])), (w9, .inl (w16, 8, .inl (fun _ => 0))), (w10, .inl (w17, 8, .inl (fun _ => 0))), (w11, .inl (w18, 8, .inl (fun _ => 0))), (w12, .inl (w19, 8, .inl (fun _ => 0))), (w13, .inl (w20, 8, .inl (fun _ => 0))), (w14, .inl (w21, 8, .inl (fun _ => 0))), (w15, .inl (w22, 8, .inl (fun _ => 0))), (w2, .inr (2, [.ref w23, .ref w24, .ref w25, .int 0, .int (-1), .int (-1)])), (w3, .inr (4, [.ref w26, .ref w27, .ref w28, .int 0, .int 0, .int 0, .int 45])), (w26, .inr (3, [.ref w1, .ref w2, .ref w29, .ref w30, .ref w31, .ref w32, .ref w33, .int 0, .int 0])), (w52, .inl (w53, 1, .inr (.inl (fun _ => 0)))), (w54, .inl (w55, 1, .inr (.inr (.inr (.inl (fun _ => 0)))))), (w34, .inr (12, [.int 1, .ref w35, .ref w36, .ref w37, .int (-1), .int (-1), .int 0, .ref w38, .ref w39, .ref w40, .ref w41, .ref w42, .ref w43, .ref w44, .ref w45, .ref w46, .int 0, .int 0, .null, .int 0, .int 45, .ref w47, .ref w48, .ref w49, .ref w50, .ref w51]))] H1 := ro_keep hP hk1
                  generalize H1 = H at hP hS ⊢
                  refine W.widen (k := 92) (n := 4908) (Nat.le_of_ble_eq_true rfl) (Nat.le_of_ble_eq_true rfl) ?_
                  have hw : r_34 = 1 := hw
                  subst hw
                  refine lv_iload hx hb dL_law_359 (lv_at hl 1 rfl) ?_
                  refine lv_icmp_eq (tgt := 366) hx hb dL_law_361 (by decide) (fun c_35 => ?_) (fun c_35 => ?_)
                  · refine lv_iload hx hb dL_law_366 (lv_at hl 1 rfl) ?_
                    refine lv_if_ne (tgt := 383) hx hb dL_law_368 (by decide) (fun c_36 => ?_) (fun c_36 => ?_)
                    · refine lv_goto (tgt := 2585) hx hb dL_law_383 (by decide) ?_
                      refine W.widen (k := 600002) (n := 7302232) (Nat.le_of_ble_eq_true rfl) (Nat.le_of_ble_eq_true rfl) ?_
                      exact law_end C0 hA hA2 hS (lv_sub hl [7, 2] rfl)
                    · exact absurd c_36 (by decide)
                  · exact absurd c_35 (by decide)
            · exact absurd c_1 c_30
    · refine lv_iconst (v := 1) hx hb dL_law_246 (by decide) ?_
      refine lv_goto (tgt := 251) hx hb dL_law_247 (by decide) ?_
      refine lv_aload_n hx hb dL_law_251 rfl (lv_at hl 5 rfl) ?_
      refine lv_iload hx hb dL_law_252 (lv_at hl 0 rfl) ?_
      refine lv_iconst (v := 5) hx hb dL_law_254 (by decide) ?_
      refine lv_iadd hx hb dL_law_255 ?_
      refine W.eq (congrArg (fun z : Int32 => F0 m 256 ls (.int z :: [.ref b, .int 1, .int (xs (3 : Int32).toNatClampNeg), .int (((xs (2 : Int32).toNatClampNeg).toUInt32 % 65536).toInt32), .int (((xs (1 : Int32).toNatClampNeg).toUInt32 % 65536).toInt32), .ref w0])) (by decide : (0 + 5 : Int32) = 5)) ?_
      refine va_sld hx hb hX hbl hbA hS (i := 5) (by unfold vp_in; decide) dL_law_256 ?_
      refine lv_if_eq (tgt := 264) hx hb dL_law_257 (by decide) (fun c_37 => ?_) (fun c_37 => ?_)
      · refine lv_iconst (v := 0) hx hb dL_law_264 (by decide) ?_
        refine lv_aload_n hx hb dL_law_265 rfl (lv_at hl 5 rfl) ?_
        refine lv_iload hx hb dL_law_266 (lv_at hl 0 rfl) ?_
        refine lv_bipush (v := 6) hx hb dL_law_268 (by decide) ?_
        refine lv_iadd hx hb dL_law_270 ?_
        refine W.eq (congrArg (fun z : Int32 => F0 m 271 ls (.int z :: [.ref b, .int 0, .int 1, .int (xs (3 : Int32).toNatClampNeg), .int (((xs (2 : Int32).toNatClampNeg).toUInt32 % 65536).toInt32), .int (((xs (1 : Int32).toNatClampNeg).toUInt32 % 65536).toInt32), .ref w0])) (by decide : (0 + 6 : Int32) = 6)) ?_
        refine va_sld hx hb hX hbl hbA hS (i := 6) (by unfold vp_in; decide) dL_law_271 ?_
        refine lv_if_eq (tgt := 279) hx hb dL_law_272 (by decide) (fun c_38 => ?_) (fun c_38 => ?_)
        · refine lv_iconst (v := 0) hx hb dL_law_279 (by decide) ?_
          refine lv_aload_n hx hb dL_law_280 rfl (lv_at hl 2 rfl) ?_
          have hPc := hP.sub (ws' := [(w0, .inr (10, [.ref w1, .ref w2, .ref w3, .ref w4, .ref w5, .ref w6, .ref w7, .ref w8])), (w1, .inr (7, [.ref w9, .ref w10, .ref w11, .ref w12, .ref w13, .ref w14, .ref w15, .int 0])), (w2, .inr (2, [.ref w23, .ref w24, .ref w25, .int 0, .int (-1), .int (-1)])), (w3, .inr (4, [.ref w26, .ref w27, .ref w28, .int 0, .int 0, .int 0, .int 45])), (w26, .inr (3, [.ref w1, .ref w2, .ref w29, .ref w30, .ref w31, .ref w32, .ref w33, .int 0, .int 0]))]) [0, 1, 9, 10, 11] rfl
          have hKc := hK.sub (tys' := []) [] rfl
          refine vx_calli (vx_runSX (As := [.ref w0, .int (((xs (1 : Int32).toNatClampNeg).toUInt32 % 65536).toInt32), .int (((xs (2 : Int32).toNatClampNeg).toUInt32 % 65536).toInt32), .int (xs (3 : Int32).toNatClampNeg), .int 1, .int 0, .int 0, .ref w52]) (rest := []) ⟨hx, hb, hml, hown, hq⟩ (c_L_role_no l hst tE adK adV dC dI w0 w1 w2 w3 w4 w5 w6 w7 w8 w9 w10 w11 w12 w13 w14 w15 w23 w24 w25 w26 w27 w28 w29 w30 w31 w32 w33 w52 (((xs (1 : Int32).toNatClampNeg).toUInt32 % 65536).toInt32) (((xs (2 : Int32).toNatClampNeg).toUInt32 % 65536).toInt32) (xs (3 : Int32).toNatClampNeg) 1 0 0 hok H.size) (tcSW 8 hq q_682 q_0 q_680 q_681 rfl rfl (by decide +kernel) ⟨Nat.le_of_ble_eq_true rfl, Nat.le_of_ble_eq_true rfl⟩) (preR.S (preR.of hPc hKc ham hS hA)) rfl rfl hl.1 rfl (lv_room (Nat.le_of_ble_eq_true rfl)) dL_law_281 ⟨Nat.le_of_ble_eq_true rfl, Nat.le_of_ble_eq_true rfl⟩) hS (fun q _ h => hA q (Nat.le_trans hS.1 h)) (fun q h => hA q (Nat.le_trans hS.1 h)) (fun q _ h => hA q (Nat.le_trans hS.1 h)) (fun E ce q9 u t H1 locs ht hvm hpx hB hz1 hk1 hS hce hcv hcl => ?_) (fun r_39 u t H1 locs ht hvm hw hB hz1 hk1 hS => ?_)
          · exact (hB : False).elim
          · have hP : va_P (dC, dI) cls [(w0, .inr (10, [.ref w1, .ref w2, .ref w3, .ref w4, .ref w5, .ref w6, .ref w7, .ref w8])), (w1, .inr (7, [.ref w9, .ref w10, .ref w11, .ref w12, .ref w13, .ref w14, .ref w15, .int 0])), (w9, .inl (w16, 8, .inl (fun _ => 0))), (w10, .inl (w17, 8, .inl (fun _ => 0))), (w11, .inl (w18, 8, .inl (fun _ => 0))), (w12, .inl (w19, 8, .inl (fun _ => 0))), (w13, .inl (w20, 8, .inl (fun _ => 0))), (w14, .inl (w21, 8, .inl (fun _ => 0))), (w15, .inl (w22, 8, .inl (fun _ => 0))), (w2, .inr (2, [.ref w23, .ref w24, .ref w25, .int 0, .int (-1), .int (-1)])), (w3, .inr (4, [.ref w26, .ref w27, .ref w28, .int 0, .int 0, .int 0, .int 45])), (w26, .inr (3, [.ref w1, .ref w2, .ref w29, .ref w30, .ref w31, .ref w32, .ref w33, .int 0, .int 0])), (w34, .inr (12, [.int 0, .ref w35, .ref w36, .ref w37, .int (-1), .int (-1), .int 0, .ref w38, .ref w39, .ref w40, .ref w41, .ref w42, .ref w43, .ref w44, .ref w45, .ref w46, .int 0, .int 0, .null, .int 0, .int 45, .ref w47, .ref w48, .ref w49, .ref w50, .ref w51])), (w35, .inr (14, [.int 0, .ref tE, .int 0])), (w36, .inr (14, [.int 0, .ref tE, .int 0])), (w52, .inl (w53, 1, .inr (.inl (fun _ => 0)))), (w54, .inl (w55, 1, .inr (.inr (.inr (.inl (fun _ => 0))))))] H1 := ro_keep hP hk1
            generalize H1 = H at hP hS ⊢
            refine W.widen (k := 92) (n := 4908) (Nat.le_of_ble_eq_true rfl) (Nat.le_of_ble_eq_true rfl) ?_
            have hw : r_39 = 1 := hw
            subst hw
            refine lv_istore (lv' := [(6, .int 1), (5, .int 0), (4, .ref w54), (3, .ref w52), (2, .ref w34), (1, .ref w0), (0, .ref b)]) hx hb dL_law_284 hl (by decide) rfl (fun ls hl => ?_)
            refine lv_aload_n hx hb dL_law_286 rfl (lv_at hl 4 rfl) ?_
            refine lv_aload_n hx hb dL_law_287 rfl (lv_at hl 6 rfl) ?_
            refine lv_iload hx hb dL_law_288 (lv_at hl 1 rfl) ?_
            refine lv_iconst (v := 1) hx hb dL_law_290 (by decide) ?_
            refine lv_iadd hx hb dL_law_291 ?_
            refine W.eq (congrArg (fun z : Int32 => F0 m 292 ls (.int z :: [.ref b, .ref w34])) (by decide : (0 + 1 : Int32) = 1)) ?_
            refine va_sld hx hb hX hbl hbA hS (i := 1) (by unfold vp_in; decide) dL_law_292 ?_
            refine lv_i2c (v := ((xs (1 : Int32).toNatClampNeg).toUInt32 % 65536).toInt32) hx hb dL_law_293 rfl ?_
            refine lv_aload_n hx hb dL_law_294 rfl (lv_at hl 6 rfl) ?_
            refine lv_iload hx hb dL_law_295 (lv_at hl 1 rfl) ?_
            refine lv_iconst (v := 2) hx hb dL_law_297 (by decide) ?_
            refine lv_iadd hx hb dL_law_298 ?_
            refine W.eq (congrArg (fun z : Int32 => F0 m 299 ls (.int z :: [.ref b, .int (((xs (1 : Int32).toNatClampNeg).toUInt32 % 65536).toInt32), .ref w34])) (by decide : (0 + 2 : Int32) = 2)) ?_
            refine va_sld hx hb hX hbl hbA hS (i := 2) (by unfold vp_in; decide) dL_law_299 ?_
            refine lv_i2c (v := ((xs (2 : Int32).toNatClampNeg).toUInt32 % 65536).toInt32) hx hb dL_law_300 rfl ?_
            refine lv_aload_n hx hb dL_law_301 rfl (lv_at hl 6 rfl) ?_
            refine lv_iload hx hb dL_law_302 (lv_at hl 1 rfl) ?_
            refine lv_iconst (v := 3) hx hb dL_law_304 (by decide) ?_
            refine lv_iadd hx hb dL_law_305 ?_
            refine W.eq (congrArg (fun z : Int32 => F0 m 306 ls (.int z :: [.ref b, .int (((xs (2 : Int32).toNatClampNeg).toUInt32 % 65536).toInt32), .int (((xs (1 : Int32).toNatClampNeg).toUInt32 % 65536).toInt32), .ref w34])) (by decide : (0 + 3 : Int32) = 3)) ?_
            refine va_sld hx hb hX hbl hbA hS (i := 3) (by unfold vp_in; decide) dL_law_306 ?_
            refine lv_aload_n hx hb dL_law_307 rfl (lv_at hl 6 rfl) ?_
            refine lv_iload hx hb dL_law_308 (lv_at hl 1 rfl) ?_
            refine lv_iconst (v := 4) hx hb dL_law_310 (by decide) ?_
            refine lv_iadd hx hb dL_law_311 ?_
            refine W.eq (congrArg (fun z : Int32 => F0 m 312 ls (.int z :: [.ref b, .int (xs (3 : Int32).toNatClampNeg), .int (((xs (2 : Int32).toNatClampNeg).toUInt32 % 65536).toInt32), .int (((xs (1 : Int32).toNatClampNeg).toUInt32 % 65536).toInt32), .ref w34])) (by decide : (0 + 4 : Int32) = 4)) ?_
            refine va_sld hx hb hX hbl hbA hS (i := 4) (by unfold vp_in; decide) dL_law_312 ?_
            refine lv_if_eq (tgt := 320) hx hb dL_law_313 (by decide) (fun c_40 => ?_) (fun c_40 => ?_)
            · exact absurd c_40 c_1
            · refine lv_iconst (v := 1) hx hb dL_law_316 (by decide) ?_
              refine lv_goto (tgt := 321) hx hb dL_law_317 (by decide) ?_
              refine lv_aload_n hx hb dL_law_321 rfl (lv_at hl 6 rfl) ?_
              refine lv_iload hx hb dL_law_322 (lv_at hl 1 rfl) ?_
              refine lv_iconst (v := 5) hx hb dL_law_324 (by decide) ?_
              refine lv_iadd hx hb dL_law_325 ?_
              refine W.eq (congrArg (fun z : Int32 => F0 m 326 ls (.int z :: [.ref b, .int 1, .int (xs (3 : Int32).toNatClampNeg), .int (((xs (2 : Int32).toNatClampNeg).toUInt32 % 65536).toInt32), .int (((xs (1 : Int32).toNatClampNeg).toUInt32 % 65536).toInt32), .ref w34])) (by decide : (0 + 5 : Int32) = 5)) ?_
              refine va_sld hx hb hX hbl hbA hS (i := 5) (by unfold vp_in; decide) dL_law_326 ?_
              refine lv_if_eq (tgt := 334) hx hb dL_law_327 (by decide) (fun c_41 => ?_) (fun c_41 => ?_)
              · refine lv_iconst (v := 0) hx hb dL_law_334 (by decide) ?_
                refine lv_aload_n hx hb dL_law_335 rfl (lv_at hl 6 rfl) ?_
                refine lv_iload hx hb dL_law_336 (lv_at hl 1 rfl) ?_
                refine lv_bipush (v := 6) hx hb dL_law_338 (by decide) ?_
                refine lv_iadd hx hb dL_law_340 ?_
                refine W.eq (congrArg (fun z : Int32 => F0 m 341 ls (.int z :: [.ref b, .int 0, .int 1, .int (xs (3 : Int32).toNatClampNeg), .int (((xs (2 : Int32).toNatClampNeg).toUInt32 % 65536).toInt32), .int (((xs (1 : Int32).toNatClampNeg).toUInt32 % 65536).toInt32), .ref w34])) (by decide : (0 + 6 : Int32) = 6)) ?_
                refine va_sld hx hb hX hbl hbA hS (i := 6) (by unfold vp_in; decide) dL_law_341 ?_
                refine lv_if_eq (tgt := 349) hx hb dL_law_342 (by decide) (fun c_42 => ?_) (fun c_42 => ?_)
                · refine lv_iconst (v := 0) hx hb dL_law_349 (by decide) ?_
                  have hPc := hP.sub (ws' := [(w34, .inr (12, [.int 0, .ref w35, .ref w36, .ref w37, .int (-1), .int (-1), .int 0, .ref w38, .ref w39, .ref w40, .ref w41, .ref w42, .ref w43, .ref w44, .ref w45, .ref w46, .int 0, .int 0, .null, .int 0, .int 45, .ref w47, .ref w48, .ref w49, .ref w50, .ref w51])), (w35, .inr (14, [.int 0, .ref tE, .int 0])), (w36, .inr (14, [.int 0, .ref tE, .int 0]))]) [12, 13, 14] rfl
                  have hKc := hK.sub (tys' := []) [] rfl
                  have hDc := hD.sub (ws' := [(w34, .inr (12, [.int 0, .ref w35, .ref w36, .ref w37, .int (-1), .int (-1), .int 0, .ref w38, .ref w39, .ref w40, .ref w41, .ref w42, .ref w43, .ref w44, .ref w45, .ref w46, .int 0, .int 0, .null, .int 0, .int 45, .ref w47, .ref w48, .ref w49, .ref w50, .ref w51])), (w35, .inr (14, [.int 0, .ref tE, .int 0])), (w36, .inr (14, [.int 0, .ref tE, .int 0]))]) [12, 13, 14] (by decide) rfl
                  have hFc := va_free (wc := [(w34, .inr (12, [.int 0, .ref w35, .ref w36, .ref w37, .int (-1), .int (-1), .int 0, .ref w38, .ref w39, .ref w40, .ref w41, .ref w42, .ref w43, .ref w44, .ref w45, .ref w46, .int 0, .int 0, .null, .int 0, .int 45, .ref w47, .ref w48, .ref w49, .ref w50, .ref w51])), (w35, .inr (14, [.int 0, .ref tE, .int 0])), (w36, .inr (14, [.int 0, .ref tE, .int 0]))]) hD hS hA [12, 13, 14] rfl
                  refine va_calli (va_runV (As := [.int (((xs (1 : Int32).toNatClampNeg).toUInt32 % 65536).toInt32), .int (((xs (2 : Int32).toNatClampNeg).toUInt32 % 65536).toInt32), .int (xs (3 : Int32).toNatClampNeg), .int 1, .int 0, .int 0]) (rest := []) ⟨hx, hb, hml, hown, hq⟩ (c_M_role_no l hst tE adK adV dC dI w34 w35 w36 w37 w38 w39 w40 w41 w42 w43 w44 w45 w46 w47 w48 w49 w50 w51 0 (((xs (1 : Int32).toNatClampNeg).toUInt32 % 65536).toInt32) (((xs (2 : Int32).toNatClampNeg).toUInt32 % 65536).toInt32) (xs (3 : Int32).toNatClampNeg) 1 0 0 hok H.size) (tcV 6 hq q_1386 q_12 q_1383 q_1384 q_1385 rfl rfl (by decide +kernel) ⟨Nat.le_of_ble_eq_true rfl, Nat.le_of_ble_eq_true rfl⟩) (pre.V (va_recv hK hP (ci := 12) (q0 := 12) rfl rfl) (pre.of hPc hDc hKc ham hS hFc)) rfl rfl hl.1 rfl (lv_room (Nat.le_of_ble_eq_true rfl)) dL_law_350 ⟨Nat.le_of_ble_eq_true rfl, Nat.le_of_ble_eq_true rfl⟩) hS (fun q _ h => hFc q h) hFc (fun r_43 u t H1 locs ht hvm hw hB hz1 hk1 hS => ?_)
                  obtain ⟨hP1, hK1, hD1⟩ := hB
                  rw [ht] at hP1
                  have hK1 := va_K.moved hvm.symm hK1
                  obtain ⟨hP, hD⟩ := va_join (wr := [(w0, .inr (10, [.ref w1, .ref w2, .ref w3, .ref w4, .ref w5, .ref w6, .ref w7, .ref w8])), (w1, .inr (7, [.ref w9, .ref w10, .ref w11, .ref w12, .ref w13, .ref w14, .ref w15, .int 0])), (w9, .inl (w16, 8, .inl (fun _ => 0))), (w10, .inl (w17, 8, .inl (fun _ => 0))), (w11, .inl (w18, 8, .inl (fun _ => 0))), (w12, .inl (w19, 8, .inl (fun _ => 0))), (w13, .inl (w20, 8, .inl (fun _ => 0))), (w14, .inl (w21, 8, .inl (fun _ => 0))), (w15, .inl (w22, 8, .inl (fun _ => 0))), (w2, .inr (2, [.ref w23, .ref w24, .ref w25, .int 0, .int (-1), .int (-1)])), (w3, .inr (4, [.ref w26, .ref w27, .ref w28, .int 0, .int 0, .int 0, .int 45])), (w26, .inr (3, [.ref w1, .ref w2, .ref w29, .ref w30, .ref w31, .ref w32, .ref w33, .int 0, .int 0])), (w52, .inl (w53, 1, .inr (.inl (fun _ => 0)))), (w54, .inl (w55, 1, .inr (.inr (.inr (.inl (fun _ => 0))))))]) (w1 := [(w34, .inr (12, [.int 1, .ref w35, .ref w36, .ref w37, .int (-1), .int (-1), .int 0, .ref w38, .ref w39, .ref w40, .ref w41, .ref w42, .ref w43, .ref w44, .ref w45, .ref w46, .int 0, .int 0, .null, .int 0, .int 45, .ref w47, .ref w48, .ref w49, .ref w50, .ref w51]))]) (wc := [(w34, .inr (12, [.int 0, .ref w35, .ref w36, .ref w37, .int (-1), .int (-1), .int 0, .ref w38, .ref w39, .ref w40, .ref w41, .ref w42, .ref w43, .ref w44, .ref w45, .ref w46, .int 0, .int 0, .null, .int 0, .int 45, .ref w47, .ref w48, .ref w49, .ref w50, .ref w51])), (w35, .inr (14, [.int 0, .ref tE, .int 0])), (w36, .inr (14, [.int 0, .ref tE, .int 0]))]) hP hD [12, 13, 14] [0, 1, 2, 3, 4, 5, 6, 7, 8, 9, 10, 11, 15, 16] rfl rfl (by decide) (by decide) hk1 hFc hP1 hD1
                  have hK := (hK.sub (tys' := [(w16, .char), (w17, .char), (w18, .int), (w19, .boolean), (w20, .boolean), (w21, .boolean), (w22, .int), (w53, .long), (w55, .double)]) [0, 1, 2, 3, 4, 5, 6, 7, 8] rfl).app hK1
                  generalize H1 = H at hP hS ⊢
                  have hP : va_P (dC, dI) cls [(w0, .inr (10, [.ref w1, .ref w2, .ref w3, .ref w4, .ref w5, .ref w6, .ref w7, .ref w8])), (w1, .inr (7, [.ref w9, .ref w10, .ref w11, .ref w12, .ref w13, .ref w14, .ref w15, .int 0])), (w9, .inl (w16, 8, .inl (fun _ => 0))), (w10, .inl (w17, 8, .inl (fun _ => 0))), (w11, .inl (w18, 8, .inl (fun _ => 0))), (w12, .inl (w19, 8, .inl (fun _ => 0))), (w13, .inl (w20, 8, .inl (fun _ => 0))), (w14, .inl (w21, 8, .inl (fun _ => 0))), (w15, .inl (w22, 8, .inl (fun _ => 0))), (w2, .inr (2, [.ref w23, .ref w24, .ref w25, .int 0, .int (-1), .int (-1)])), (w3, .inr (4, [.ref w26, .ref w27, .ref w28, .int 0, .int 0, .int 0, .int 45])), (w26, .inr (3, [.ref w1, .ref w2, .ref w29, .ref w30, .ref w31, .ref w32, .ref w33, .int 0, .int 0])), (w52, .inl (w53, 1, .inr (.inl (fun _ => 0)))), (w54, .inl (w55, 1, .inr (.inr (.inr (.inl (fun _ => 0)))))), (w34, .inr (12, [.int 1, .ref w35, .ref w36, .ref w37, .int (-1), .int (-1), .int 0, .ref w38, .ref w39, .ref w40, .ref w41, .ref w42, .ref w43, .ref w44, .ref w45, .ref w46, .int 0, .int 0, .null, .int 0, .int 45, .ref w47, .ref w48, .ref w49, .ref w50, .ref w51]))] H := hP
                  have hD : va_D A [(w0, .inr (10, [.ref w1, .ref w2, .ref w3, .ref w4, .ref w5, .ref w6, .ref w7, .ref w8])), (w1, .inr (7, [.ref w9, .ref w10, .ref w11, .ref w12, .ref w13, .ref w14, .ref w15, .int 0])), (w9, .inl (w16, 8, .inl (fun _ => 0))), (w10, .inl (w17, 8, .inl (fun _ => 0))), (w11, .inl (w18, 8, .inl (fun _ => 0))), (w12, .inl (w19, 8, .inl (fun _ => 0))), (w13, .inl (w20, 8, .inl (fun _ => 0))), (w14, .inl (w21, 8, .inl (fun _ => 0))), (w15, .inl (w22, 8, .inl (fun _ => 0))), (w2, .inr (2, [.ref w23, .ref w24, .ref w25, .int 0, .int (-1), .int (-1)])), (w3, .inr (4, [.ref w26, .ref w27, .ref w28, .int 0, .int 0, .int 0, .int 45])), (w26, .inr (3, [.ref w1, .ref w2, .ref w29, .ref w30, .ref w31, .ref w32, .ref w33, .int 0, .int 0])), (w52, .inl (w53, 1, .inr (.inl (fun _ => 0)))), (w54, .inl (w55, 1, .inr (.inr (.inr (.inl (fun _ => 0)))))), (w34, .inr (12, [.int 1, .ref w35, .ref w36, .ref w37, .int (-1), .int (-1), .int 0, .ref w38, .ref w39, .ref w40, .ref w41, .ref w42, .ref w43, .ref w44, .ref w45, .ref w46, .int 0, .int 0, .null, .int 0, .int 45, .ref w47, .ref w48, .ref w49, .ref w50, .ref w51]))] := hD
                  have hK : va_K (dC, dI) cls [(w16, .char), (w17, .char), (w18, .int), (w19, .boolean), (w20, .boolean), (w21, .boolean), (w22, .int), (w53, .long), (w55, .double)] s := hK
                  refine W.widen (k := 92) (n := 4908) (Nat.le_of_ble_eq_true rfl) (Nat.le_of_ble_eq_true rfl) ?_
                  refine lv_istore (lv' := [(7, .int r_43), (6, .int 1), (5, .int 0), (4, .ref w54), (3, .ref w52), (2, .ref w34), (1, .ref w0), (0, .ref b)]) hx hb dL_law_353 hl (by decide) rfl (fun ls hl => ?_)
                  refine lv_aload_n hx hb dL_law_355 rfl (lv_at hl 5 rfl) ?_
                  have hPc := hP.sub (ws' := [(w34, .inr (12, [.int 1, .ref w35, .ref w36, .ref w37, .int (-1), .int (-1), .int 0, .ref w38, .ref w39, .ref w40, .ref w41, .ref w42, .ref w43, .ref w44, .ref w45, .ref w46, .int 0, .int 0, .null, .int 0, .int 45, .ref w47, .ref w48, .ref w49, .ref w50, .ref w51]))]) [14] rfl
                  have hKc := hK.sub (tys' := []) [] rfl
                  refine va_calli (va_runV (As := []) (rest := []) ⟨hx, hb, hml, hown, hq⟩ (c_thrown l hst tE adK adV dC dI w34 w35 w36 w37 w38 w39 w40 w41 w42 w43 w44 w45 w46 w47 w48 w49 w50 w51 1 H.size) (tcV 0 hq q_1264 q_12 q_1261 q_1262 q_1263 rfl rfl (by decide +kernel) ⟨Nat.le_of_ble_eq_true rfl, Nat.le_of_ble_eq_true rfl⟩) (preR.V (va_recv hK hP (ci := 12) (q0 := 14) rfl rfl) (preR.of hPc hKc ham hS hA)) rfl rfl hl.1 rfl (lv_room (Nat.le_of_ble_eq_true rfl)) dL_law_356 ⟨Nat.le_of_ble_eq_true rfl, Nat.le_of_ble_eq_true rfl⟩) hS (fun q _ h => hA q (Nat.le_trans hS.1 h)) (fun q h => hA q (Nat.le_trans hS.1 h)) (fun r_44 u t H1 locs ht hvm hw hB hz1 hk1 hS => ?_)
                  have hP : va_P (dC, dI) cls [(w0, .inr (10, [.ref w1, .ref w2, .ref w3, .ref w4, .ref w5, .ref w6, .ref w7, .ref w8])), (w1, .inr (7, [.ref w9, .ref w10, .ref w11, .ref w12, .ref w13, .ref w14, .ref w15, .int 0])), (w9, .inl (w16, 8, .inl (fun _ => 0))), (w10, .inl (w17, 8, .inl (fun _ => 0))), (w11, .inl (w18, 8, .inl (fun _ => 0))), (w12, .inl (w19, 8, .inl (fun _ => 0))), (w13, .inl (w20, 8, .inl (fun _ => 0))), (w14, .inl (w21, 8, .inl (fun _ => 0))), (w15, .inl (w22, 8, .inl (fun _ => 0))), (w2, .inr (2, [.ref w23, .ref w24, .ref w25, .int 0, .int (-1), .int (-1)])), (w3, .inr (4, [.ref w26, .ref w27, .ref w28, .int 0, .int 0, .int 0, .int 45])), (w26, .inr (3, [.ref w1, .ref w2, .ref w29, .ref w30, .ref w31, .ref w32, .ref w33, .int 0, .int 0])), (w52, .inl (w53, 1, .inr (.inl (fun _ => 0)))), (w54, .inl (w55, 1, .inr (.inr (.inr (.inl (fun _ => 0)))))), (w34, .inr (12, [.int 1, .ref w35, .ref w36, .ref w37, .int (-1), .int (-1), .int 0, .ref w38, .ref w39, .ref w40, .ref w41, .ref w42, .ref w43, .ref w44, .ref w45, .ref w46, .int 0, .int 0, .null, .int 0, .int 45, .ref w47, .ref w48, .ref w49, .ref w50, .ref w51]))] H1 := ro_keep hP hk1
                  generalize H1 = H at hP hS ⊢
                  refine W.widen (k := 92) (n := 4908) (Nat.le_of_ble_eq_true rfl) (Nat.le_of_ble_eq_true rfl) ?_
                  have hw : r_44 = 1 := hw
                  subst hw
                  refine lv_iload hx hb dL_law_359 (lv_at hl 1 rfl) ?_
                  refine lv_icmp_eq (tgt := 366) hx hb dL_law_361 (by decide) (fun c_45 => ?_) (fun c_45 => ?_)
                  · refine lv_iload hx hb dL_law_366 (lv_at hl 1 rfl) ?_
                    refine lv_if_ne (tgt := 383) hx hb dL_law_368 (by decide) (fun c_46 => ?_) (fun c_46 => ?_)
                    · refine lv_goto (tgt := 2585) hx hb dL_law_383 (by decide) ?_
                      refine W.widen (k := 600002) (n := 7302232) (Nat.le_of_ble_eq_true rfl) (Nat.le_of_ble_eq_true rfl) ?_
                      exact law_end C0 hA hA2 hS (lv_sub hl [7, 2] rfl)
                    · exact absurd c_46 (by decide)
                  · exact absurd c_45 (by decide)
                · exact absurd c_38 c_42
              · exact absurd c_37 c_41
        · refine lv_iconst (v := 1) hx hb dL_law_275 (by decide) ?_
          refine lv_goto (tgt := 280) hx hb dL_law_276 (by decide) ?_
          refine lv_aload_n hx hb dL_law_280 rfl (lv_at hl 2 rfl) ?_
          have hPc := hP.sub (ws' := [(w0, .inr (10, [.ref w1, .ref w2, .ref w3, .ref w4, .ref w5, .ref w6, .ref w7, .ref w8])), (w1, .inr (7, [.ref w9, .ref w10, .ref w11, .ref w12, .ref w13, .ref w14, .ref w15, .int 0])), (w2, .inr (2, [.ref w23, .ref w24, .ref w25, .int 0, .int (-1), .int (-1)])), (w3, .inr (4, [.ref w26, .ref w27, .ref w28, .int 0, .int 0, .int 0, .int 45])), (w26, .inr (3, [.ref w1, .ref w2, .ref w29, .ref w30, .ref w31, .ref w32, .ref w33, .int 0, .int 0]))]) [0, 1, 9, 10, 11] rfl
          have hKc := hK.sub (tys' := []) [] rfl
          refine vx_calli (vx_runSX (As := [.ref w0, .int (((xs (1 : Int32).toNatClampNeg).toUInt32 % 65536).toInt32), .int (((xs (2 : Int32).toNatClampNeg).toUInt32 % 65536).toInt32), .int (xs (3 : Int32).toNatClampNeg), .int 1, .int 0, .int 1, .ref w52]) (rest := []) ⟨hx, hb, hml, hown, hq⟩ (c_L_role_no l hst tE adK adV dC dI w0 w1 w2 w3 w4 w5 w6 w7 w8 w9 w10 w11 w12 w13 w14 w15 w23 w24 w25 w26 w27 w28 w29 w30 w31 w32 w33 w52 (((xs (1 : Int32).toNatClampNeg).toUInt32 % 65536).toInt32) (((xs (2 : Int32).toNatClampNeg).toUInt32 % 65536).toInt32) (xs (3 : Int32).toNatClampNeg) 1 0 1 hok H.size) (tcSW 8 hq q_682 q_0 q_680 q_681 rfl rfl (by decide +kernel) ⟨Nat.le_of_ble_eq_true rfl, Nat.le_of_ble_eq_true rfl⟩) (preR.S (preR.of hPc hKc ham hS hA)) rfl rfl hl.1 rfl (lv_room (Nat.le_of_ble_eq_true rfl)) dL_law_281 ⟨Nat.le_of_ble_eq_true rfl, Nat.le_of_ble_eq_true rfl⟩) hS (fun q _ h => hA q (Nat.le_trans hS.1 h)) (fun q h => hA q (Nat.le_trans hS.1 h)) (fun q _ h => hA q (Nat.le_trans hS.1 h)) (fun E ce q9 u t H1 locs ht hvm hpx hB hz1 hk1 hS hce hcv hcl => ?_) (fun r_47 u t H1 locs ht hvm hw hB hz1 hk1 hS => ?_)
          · exact (hB : False).elim
          · have hP : va_P (dC, dI) cls [(w0, .inr (10, [.ref w1, .ref w2, .ref w3, .ref w4, .ref w5, .ref w6, .ref w7, .ref w8])), (w1, .inr (7, [.ref w9, .ref w10, .ref w11, .ref w12, .ref w13, .ref w14, .ref w15, .int 0])), (w9, .inl (w16, 8, .inl (fun _ => 0))), (w10, .inl (w17, 8, .inl (fun _ => 0))), (w11, .inl (w18, 8, .inl (fun _ => 0))), (w12, .inl (w19, 8, .inl (fun _ => 0))), (w13, .inl (w20, 8, .inl (fun _ => 0))), (w14, .inl (w21, 8, .inl (fun _ => 0))), (w15, .inl (w22, 8, .inl (fun _ => 0))), (w2, .inr (2, [.ref w23, .ref w24, .ref w25, .int 0, .int (-1), .int (-1)])), (w3, .inr (4, [.ref w26, .ref w27, .ref w28, .int 0, .int 0, .int 0, .int 45])), (w26, .inr (3, [.ref w1, .ref w2, .ref w29, .ref w30, .ref w31, .ref w32, .ref w33, .int 0, .int 0])), (w34, .inr (12, [.int 0, .ref w35, .ref w36, .ref w37, .int (-1), .int (-1), .int 0, .ref w38, .ref w39, .ref w40, .ref w41, .ref w42, .ref w43, .ref w44, .ref w45, .ref w46, .int 0, .int 0, .null, .int 0, .int 45, .ref w47, .ref w48, .ref w49, .ref w50, .ref w51])), (w35, .inr (14, [.int 0, .ref tE, .int 0])), (w36, .inr (14, [.int 0, .ref tE, .int 0])), (w52, .inl (w53, 1, .inr (.inl (fun _ => 0)))), (w54, .inl (w55, 1, .inr (.inr (.inr (.inl (fun _ => 0))))))] H1 := ro_keep hP hk1
            generalize H1 = H at hP hS ⊢
            refine W.widen (k := 92) (n := 4908) (Nat.le_of_ble_eq_true rfl) (Nat.le_of_ble_eq_true rfl) ?_
            have hw : r_47 = 1 := hw
            subst hw
            refine lv_istore (lv' := [(6, .int 1), (5, .int 0), (4, .ref w54), (3, .ref w52), (2, .ref w34), (1, .ref w0), (0, .ref b)]) hx hb dL_law_284 hl (by decide) rfl (fun ls hl => ?_)
            refine lv_aload_n hx hb dL_law_286 rfl (lv_at hl 4 rfl) ?_
            refine lv_aload_n hx hb dL_law_287 rfl (lv_at hl 6 rfl) ?_
            refine lv_iload hx hb dL_law_288 (lv_at hl 1 rfl) ?_
            refine lv_iconst (v := 1) hx hb dL_law_290 (by decide) ?_
            refine lv_iadd hx hb dL_law_291 ?_
            refine W.eq (congrArg (fun z : Int32 => F0 m 292 ls (.int z :: [.ref b, .ref w34])) (by decide : (0 + 1 : Int32) = 1)) ?_
            refine va_sld hx hb hX hbl hbA hS (i := 1) (by unfold vp_in; decide) dL_law_292 ?_
            refine lv_i2c (v := ((xs (1 : Int32).toNatClampNeg).toUInt32 % 65536).toInt32) hx hb dL_law_293 rfl ?_
            refine lv_aload_n hx hb dL_law_294 rfl (lv_at hl 6 rfl) ?_
            refine lv_iload hx hb dL_law_295 (lv_at hl 1 rfl) ?_
            refine lv_iconst (v := 2) hx hb dL_law_297 (by decide) ?_
            refine lv_iadd hx hb dL_law_298 ?_
            refine W.eq (congrArg (fun z : Int32 => F0 m 299 ls (.int z :: [.ref b, .int (((xs (1 : Int32).toNatClampNeg).toUInt32 % 65536).toInt32), .ref w34])) (by decide : (0 + 2 : Int32) = 2)) ?_
            refine va_sld hx hb hX hbl hbA hS (i := 2) (by unfold vp_in; decide) dL_law_299 ?_
            refine lv_i2c (v := ((xs (2 : Int32).toNatClampNeg).toUInt32 % 65536).toInt32) hx hb dL_law_300 rfl ?_
            refine lv_aload_n hx hb dL_law_301 rfl (lv_at hl 6 rfl) ?_
            refine lv_iload hx hb dL_law_302 (lv_at hl 1 rfl) ?_
            refine lv_iconst (v := 3) hx hb dL_law_304 (by decide) ?_
            refine lv_iadd hx hb dL_law_305 ?_
            refine W.eq (congrArg (fun z : Int32 => F0 m 306 ls (.int z :: [.ref b, .int (((xs (2 : Int32).toNatClampNeg).toUInt32 % 65536).toInt32), .int (((xs (1 : Int32).toNatClampNeg).toUInt32 % 65536).toInt32), .ref w34])) (by decide : (0 + 3 : Int32) = 3)) ?_
            refine va_sld hx hb hX hbl hbA hS (i := 3) (by unfold vp_in; decide) dL_law_306 ?_
            refine lv_aload_n hx hb dL_law_307 rfl (lv_at hl 6 rfl) ?_
            refine lv_iload hx hb dL_law_308 (lv_at hl 1 rfl) ?_
            refine lv_iconst (v := 4) hx hb dL_law_310 (by decide) ?_
            refine lv_iadd hx hb dL_law_311 ?_
            refine W.eq (congrArg (fun z : Int32 => F0 m 312 ls (.int z :: [.ref b, .int (xs (3 : Int32).toNatClampNeg), .int (((xs (2 : Int32).toNatClampNeg).toUInt32 % 65536).toInt32), .int (((xs (1 : Int32).toNatClampNeg).toUInt32 % 65536).toInt32), .ref w34])) (by decide : (0 + 4 : Int32) = 4)) ?_
            refine va_sld hx hb hX hbl hbA hS (i := 4) (by unfold vp_in; decide) dL_law_312 ?_
            refine lv_if_eq (tgt := 320) hx hb dL_law_313 (by decide) (fun c_48 => ?_) (fun c_48 => ?_)
            · exact absurd c_48 c_1
            · refine lv_iconst (v := 1) hx hb dL_law_316 (by decide) ?_
              refine lv_goto (tgt := 321) hx hb dL_law_317 (by decide) ?_
              refine lv_aload_n hx hb dL_law_321 rfl (lv_at hl 6 rfl) ?_
              refine lv_iload hx hb dL_law_322 (lv_at hl 1 rfl) ?_
              refine lv_iconst (v := 5) hx hb dL_law_324 (by decide) ?_
              refine lv_iadd hx hb dL_law_325 ?_
              refine W.eq (congrArg (fun z : Int32 => F0 m 326 ls (.int z :: [.ref b, .int 1, .int (xs (3 : Int32).toNatClampNeg), .int (((xs (2 : Int32).toNatClampNeg).toUInt32 % 65536).toInt32), .int (((xs (1 : Int32).toNatClampNeg).toUInt32 % 65536).toInt32), .ref w34])) (by decide : (0 + 5 : Int32) = 5)) ?_
              refine va_sld hx hb hX hbl hbA hS (i := 5) (by unfold vp_in; decide) dL_law_326 ?_
              refine lv_if_eq (tgt := 334) hx hb dL_law_327 (by decide) (fun c_49 => ?_) (fun c_49 => ?_)
              · refine lv_iconst (v := 0) hx hb dL_law_334 (by decide) ?_
                refine lv_aload_n hx hb dL_law_335 rfl (lv_at hl 6 rfl) ?_
                refine lv_iload hx hb dL_law_336 (lv_at hl 1 rfl) ?_
                refine lv_bipush (v := 6) hx hb dL_law_338 (by decide) ?_
                refine lv_iadd hx hb dL_law_340 ?_
                refine W.eq (congrArg (fun z : Int32 => F0 m 341 ls (.int z :: [.ref b, .int 0, .int 1, .int (xs (3 : Int32).toNatClampNeg), .int (((xs (2 : Int32).toNatClampNeg).toUInt32 % 65536).toInt32), .int (((xs (1 : Int32).toNatClampNeg).toUInt32 % 65536).toInt32), .ref w34])) (by decide : (0 + 6 : Int32) = 6)) ?_
                refine va_sld hx hb hX hbl hbA hS (i := 6) (by unfold vp_in; decide) dL_law_341 ?_
                refine lv_if_eq (tgt := 349) hx hb dL_law_342 (by decide) (fun c_50 => ?_) (fun c_50 => ?_)
                · exact absurd c_50 c_38
                · refine lv_iconst (v := 1) hx hb dL_law_345 (by decide) ?_
                  refine lv_goto (tgt := 350) hx hb dL_law_346 (by decide) ?_
                  have hPc := hP.sub (ws' := [(w34, .inr (12, [.int 0, .ref w35, .ref w36, .ref w37, .int (-1), .int (-1), .int 0, .ref w38, .ref w39, .ref w40, .ref w41, .ref w42, .ref w43, .ref w44, .ref w45, .ref w46, .int 0, .int 0, .null, .int 0, .int 45, .ref w47, .ref w48, .ref w49, .ref w50, .ref w51])), (w35, .inr (14, [.int 0, .ref tE, .int 0])), (w36, .inr (14, [.int 0, .ref tE, .int 0]))]) [12, 13, 14] rfl
                  have hKc := hK.sub (tys' := []) [] rfl
                  have hDc := hD.sub (ws' := [(w34, .inr (12, [.int 0, .ref w35, .ref w36, .ref w37, .int (-1), .int (-1), .int 0, .ref w38, .ref w39, .ref w40, .ref w41, .ref w42, .ref w43, .ref w44, .ref w45, .ref w46, .int 0, .int 0, .null, .int 0, .int 45, .ref w47, .ref w48, .ref w49, .ref w50, .ref w51])), (w35, .inr (14, [.int 0, .ref tE, .int 0])), (w36, .inr (14, [.int 0, .ref tE, .int 0]))]) [12, 13, 14] (by decide) rfl
                  have hFc := va_free (wc := [(w34, .inr (12, [.int 0, .ref w35, .ref w36, .ref w37, .int (-1), .int (-1), .int 0, .ref w38, .ref w39, .ref w40, .ref w41, .ref w42, .ref w43, .ref w44, .ref w45, .ref w46, .int 0, .int 0, .null, .int 0, .int 45, .ref w47, .ref w48, .ref w49, .ref w50, .ref w51])), (w35, .inr (14, [.int 0, .ref tE, .int 0])), (w36, .inr (14, [.int 0, .ref tE, .int 0]))]) hD hS hA [12, 13, 14] rfl
                  refine va_calli (va_runV (As := [.int (((xs (1 : Int32).toNatClampNeg).toUInt32 % 65536).toInt32), .int (((xs (2 : Int32).toNatClampNeg).toUInt32 % 65536).toInt32), .int (xs (3 : Int32).toNatClampNeg), .int 1, .int 0, .int 1]) (rest := []) ⟨hx, hb, hml, hown, hq⟩ (c_M_role_no l hst tE adK adV dC dI w34 w35 w36 w37 w38 w39 w40 w41 w42 w43 w44 w45 w46 w47 w48 w49 w50 w51 0 (((xs (1 : Int32).toNatClampNeg).toUInt32 % 65536).toInt32) (((xs (2 : Int32).toNatClampNeg).toUInt32 % 65536).toInt32) (xs (3 : Int32).toNatClampNeg) 1 0 1 hok H.size) (tcV 6 hq q_1386 q_12 q_1383 q_1384 q_1385 rfl rfl (by decide +kernel) ⟨Nat.le_of_ble_eq_true rfl, Nat.le_of_ble_eq_true rfl⟩) (pre.V (va_recv hK hP (ci := 12) (q0 := 12) rfl rfl) (pre.of hPc hDc hKc ham hS hFc)) rfl rfl hl.1 rfl (lv_room (Nat.le_of_ble_eq_true rfl)) dL_law_350 ⟨Nat.le_of_ble_eq_true rfl, Nat.le_of_ble_eq_true rfl⟩) hS (fun q _ h => hFc q h) hFc (fun r_51 u t H1 locs ht hvm hw hB hz1 hk1 hS => ?_)
                  obtain ⟨hP1, hK1, hD1⟩ := hB
                  rw [ht] at hP1
                  have hK1 := va_K.moved hvm.symm hK1
                  obtain ⟨hP, hD⟩ := va_join (wr := [(w0, .inr (10, [.ref w1, .ref w2, .ref w3, .ref w4, .ref w5, .ref w6, .ref w7, .ref w8])), (w1, .inr (7, [.ref w9, .ref w10, .ref w11, .ref w12, .ref w13, .ref w14, .ref w15, .int 0])), (w9, .inl (w16, 8, .inl (fun _ => 0))), (w10, .inl (w17, 8, .inl (fun _ => 0))), (w11, .inl (w18, 8, .inl (fun _ => 0))), (w12, .inl (w19, 8, .inl (fun _ => 0))), (w13, .inl (w20, 8, .inl (fun _ => 0))), (w14, .inl (w21, 8, .inl (fun _ => 0))), (w15, .inl (w22, 8, .inl (fun _ => 0))), (w2, .inr (2, [.ref w23, .ref w24, .ref w25, .int 0, .int (-1), .int (-1)])), (w3, .inr (4, [.ref w26, .ref w27, .ref w28, .int 0, .int 0, .int 0, .int 45])), (w26, .inr (3, [.ref w1, .ref w2, .ref w29, .ref w30, .ref w31, .ref w32, .ref w33, .int 0, .int 0])), (w52, .inl (w53, 1, .inr (.inl (fun _ => 0)))), (w54, .inl (w55, 1, .inr (.inr (.inr (.inl (fun _ => 0))))))]) (w1 := [(w34, .inr (12, [.int 1, .ref w35, .ref w36, .ref w37, .int (-1), .int (-1), .int 0, .ref w38, .ref w39, .ref w40, .ref w41, .ref w42, .ref w43, .ref w44, .ref w45, .ref w46, .int 0, .int 0, .null, .int 0, .int 45, .ref w47, .ref w48, .ref w49, .ref w50, .ref w51]))]) (wc := [(w34, .inr (12, [.int 0, .ref w35, .ref w36, .ref w37, .int (-1), .int (-1), .int 0, .ref w38, .ref w39, .ref w40, .ref w41, .ref w42, .ref w43, .ref w44, .ref w45, .ref w46, .int 0, .int 0, .null, .int 0, .int 45, .ref w47, .ref w48, .ref w49, .ref w50, .ref w51])), (w35, .inr (14, [.int 0, .ref tE, .int 0])), (w36, .inr (14, [.int 0, .ref tE, .int 0]))]) hP hD [12, 13, 14] [0, 1, 2, 3, 4, 5, 6, 7, 8, 9, 10, 11, 15, 16] rfl rfl (by decide) (by decide) hk1 hFc hP1 hD1
                  have hK := (hK.sub (tys' := [(w16, .char), (w17, .char), (w18, .int), (w19, .boolean), (w20, .boolean), (w21, .boolean), (w22, .int), (w53, .long), (w55, .double)]) [0, 1, 2, 3, 4, 5, 6, 7, 8] rfl).app hK1
                  generalize H1 = H at hP hS ⊢
                  have hP : va_P (dC, dI) cls [(w0, .inr (10, [.ref w1, .ref w2, .ref w3, .ref w4, .ref w5, .ref w6, .ref w7, .ref w8])), (w1, .inr (7, [.ref w9, .ref w10, .ref w11, .ref w12, .ref w13, .ref w14, .ref w15, .int 0])), (w9, .inl (w16, 8, .inl (fun _ => 0))), (w10, .inl (w17, 8, .inl (fun _ => 0))), (w11, .inl (w18, 8, .inl (fun _ => 0))), (w12, .inl (w19, 8, .inl (fun _ => 0))), (w13, .inl (w20, 8, .inl (fun _ => 0))), (w14, .inl (w21, 8, .inl (fun _ => 0))), (w15, .inl (w22, 8, .inl (fun _ => 0))), (w2, .inr (2, [.ref w23, .ref w24, .ref w25, .int 0, .int (-1), .int (-1)])), (w3, .inr (4, [.ref w26, .ref w27, .ref w28, .int 0, .int 0, .int 0, .int 45])), (w26, .inr (3, [.ref w1, .ref w2, .ref w29, .ref w30, .ref w31, .ref w32, .ref w33, .int 0, .int 0])), (w52, .inl (w53, 1, .inr (.inl (fun _ => 0)))), (w54, .inl (w55, 1, .inr (.inr (.inr (.inl (fun _ => 0)))))), (w34, .inr (12, [.int 1, .ref w35, .ref w36, .ref w37, .int (-1), .int (-1), .int 0, .ref w38, .ref w39, .ref w40, .ref w41, .ref w42, .ref w43, .ref w44, .ref w45, .ref w46, .int 0, .int 0, .null, .int 0, .int 45, .ref w47, .ref w48, .ref w49, .ref w50, .ref w51]))] H := hP
                  have hD : va_D A [(w0, .inr (10, [.ref w1, .ref w2, .ref w3, .ref w4, .ref w5, .ref w6, .ref w7, .ref w8])), (w1, .inr (7, [.ref w9, .ref w10, .ref w11, .ref w12, .ref w13, .ref w14, .ref w15, .int 0])), (w9, .inl (w16, 8, .inl (fun _ => 0))), (w10, .inl (w17, 8, .inl (fun _ => 0))), (w11, .inl (w18, 8, .inl (fun _ => 0))), (w12, .inl (w19, 8, .inl (fun _ => 0))), (w13, .inl (w20, 8, .inl (fun _ => 0))), (w14, .inl (w21, 8, .inl (fun _ => 0))), (w15, .inl (w22, 8, .inl (fun _ => 0))), (w2, .inr (2, [.ref w23, .ref w24, .ref w25, .int 0, .int (-1), .int (-1)])), (w3, .inr (4, [.ref w26, .ref w27, .ref w28, .int 0, .int 0, .int 0, .int 45])), (w26, .inr (3, [.ref w1, .ref w2, .ref w29, .ref w30, .ref w31, .ref w32, .ref w33, .int 0, .int 0])), (w52, .inl (w53, 1, .inr (.inl (fun _ => 0)))), (w54, .inl (w55, 1, .inr (.inr (.inr (.inl (fun _ => 0)))))), (w34, .inr (12, [.int 1, .ref w35, .ref w36, .ref w37, .int (-1), .int (-1), .int 0, .ref w38, .ref w39, .ref w40, .ref w41, .ref w42, .ref w43, .ref w44, .ref w45, .ref w46, .int 0, .int 0, .null, .int 0, .int 45, .ref w47, .ref w48, .ref w49, .ref w50, .ref w51]))] := hD
                  have hK : va_K (dC, dI) cls [(w16, .char), (w17, .char), (w18, .int), (w19, .boolean), (w20, .boolean), (w21, .boolean), (w22, .int), (w53, .long), (w55, .double)] s := hK
                  refine W.widen (k := 92) (n := 4908) (Nat.le_of_ble_eq_true rfl) (Nat.le_of_ble_eq_true rfl) ?_
                  refine lv_istore (lv' := [(7, .int r_51), (6, .int 1), (5, .int 0), (4, .ref w54), (3, .ref w52), (2, .ref w34), (1, .ref w0), (0, .ref b)]) hx hb dL_law_353 hl (by decide) rfl (fun ls hl => ?_)
                  refine lv_aload_n hx hb dL_law_355 rfl (lv_at hl 5 rfl) ?_
                  have hPc := hP.sub (ws' := [(w34, .inr (12, [.int 1, .ref w35, .ref w36, .ref w37, .int (-1), .int (-1), .int 0, .ref w38, .ref w39, .ref w40, .ref w41, .ref w42, .ref w43, .ref w44, .ref w45, .ref w46, .int 0, .int 0, .null, .int 0, .int 45, .ref w47, .ref w48, .ref w49, .ref w50, .ref w51]))]) [14] rfl
                  have hKc := hK.sub (tys' := []) [] rfl
                  refine va_calli (va_runV (As := []) (rest := []) ⟨hx, hb, hml, hown, hq⟩ (c_thrown l hst tE adK adV dC dI w34 w35 w36 w37 w38 w39 w40 w41 w42 w43 w44 w45 w46 w47 w48 w49 w50 w51 1 H.size) (tcV 0 hq q_1264 q_12 q_1261 q_1262 q_1263 rfl rfl (by decide +kernel) ⟨Nat.le_of_ble_eq_true rfl, Nat.le_of_ble_eq_true rfl⟩) (preR.V (va_recv hK hP (ci := 12) (q0 := 14) rfl rfl) (preR.of hPc hKc ham hS hA)) rfl rfl hl.1 rfl (lv_room (Nat.le_of_ble_eq_true rfl)) dL_law_356 ⟨Nat.le_of_ble_eq_true rfl, Nat.le_of_ble_eq_true rfl⟩) hS (fun q _ h => hA q (Nat.le_trans hS.1 h)) (fun q h => hA q (Nat.le_trans hS.1 h)) (fun r_52 u t H1 locs ht hvm hw hB hz1 hk1 hS => ?_)
                  have hP : va_P (dC, dI) cls [(w0, .inr (10, [.ref w1, .ref w2, .ref w3, .ref w4, .ref w5, .ref w6, .ref w7, .ref w8])), (w1, .inr (7, [.ref w9, .ref w10, .ref w11, .ref w12, .ref w13, .ref w14, .ref w15, .int 0])), (w9, .inl (w16, 8, .inl (fun _ => 0))), (w10, .inl (w17, 8, .inl (fun _ => 0))), (w11, .inl (w18, 8, .inl (fun _ => 0))), (w12, .inl (w19, 8, .inl (fun _ => 0))), (w13, .inl (w20, 8, .inl (fun _ => 0))), (w14, .inl (w21, 8, .inl (fun _ => 0))), (w15, .inl (w22, 8, .inl (fun _ => 0))), (w2, .inr (2, [.ref w23, .ref w24, .ref w25, .int 0, .int (-1), .int (-1)])), (w3, .inr (4, [.ref w26, .ref w27, .ref w28, .int 0, .int 0, .int 0, .int 45])), (w26, .inr (3, [.ref w1, .ref w2, .ref w29, .ref w30, .ref w31, .ref w32, .ref w33, .int 0, .int 0])), (w52, .inl (w53, 1, .inr (.inl (fun _ => 0)))), (w54, .inl (w55, 1, .inr (.inr (.inr (.inl (fun _ => 0)))))), (w34, .inr (12, [.int 1, .ref w35, .ref w36, .ref w37, .int (-1), .int (-1), .int 0, .ref w38, .ref w39, .ref w40, .ref w41, .ref w42, .ref w43, .ref w44, .ref w45, .ref w46, .int 0, .int 0, .null, .int 0, .int 45, .ref w47, .ref w48, .ref w49, .ref w50, .ref w51]))] H1 := ro_keep hP hk1
                  generalize H1 = H at hP hS ⊢
                  refine W.widen (k := 92) (n := 4908) (Nat.le_of_ble_eq_true rfl) (Nat.le_of_ble_eq_true rfl) ?_
                  have hw : r_52 = 1 := hw
                  subst hw
                  refine lv_iload hx hb dL_law_359 (lv_at hl 1 rfl) ?_
                  refine lv_icmp_eq (tgt := 366) hx hb dL_law_361 (by decide) (fun c_53 => ?_) (fun c_53 => ?_)
                  · refine lv_iload hx hb dL_law_366 (lv_at hl 1 rfl) ?_
                    refine lv_if_ne (tgt := 383) hx hb dL_law_368 (by decide) (fun c_54 => ?_) (fun c_54 => ?_)
                    · refine lv_goto (tgt := 2585) hx hb dL_law_383 (by decide) ?_
                      refine W.widen (k := 600002) (n := 7302232) (Nat.le_of_ble_eq_true rfl) (Nat.le_of_ble_eq_true rfl) ?_
                      exact law_end C0 hA hA2 hS (lv_sub hl [7, 2] rfl)
                    · exact absurd c_54 (by decide)
                  · exact absurd c_53 (by decide)
              · exact absurd c_37 c_49
      · refine lv_iconst (v := 1) hx hb dL_law_260 (by decide) ?_
        refine lv_goto (tgt := 265) hx hb dL_law_261 (by decide) ?_
        refine lv_aload_n hx hb dL_law_265 rfl (lv_at hl 5 rfl) ?_
        refine lv_iload hx hb dL_law_266 (lv_at hl 0 rfl) ?_
        refine lv_bipush (v := 6) hx hb dL_law_268 (by decide) ?_
        refine lv_iadd hx hb dL_law_270 ?_
        refine W.eq (congrArg (fun z : Int32 => F0 m 271 ls (.int z :: [.ref b, .int 1, .int 1, .int (xs (3 : Int32).toNatClampNeg), .int (((xs (2 : Int32).toNatClampNeg).toUInt32 % 65536).toInt32), .int (((xs (1 : Int32).toNatClampNeg).toUInt32 % 65536).toInt32), .ref w0])) (by decide : (0 + 6 : Int32) = 6)) ?_
        refine va_sld hx hb hX hbl hbA hS (i := 6) (by unfold vp_in; decide) dL_law_271 ?_
        refine lv_if_eq (tgt := 279) hx hb dL_law_272 (by decide) (fun c_55 => ?_) (fun c_55 => ?_)
        · refine lv_iconst (v := 0) hx hb dL_law_279 (by decide) ?_
          refine lv_aload_n hx hb dL_law_280 rfl (lv_at hl 2 rfl) ?_
          have hPc := hP.sub (ws' := [(w0, .inr (10, [.ref w1, .ref w2, .ref w3, .ref w4, .ref w5, .ref w6, .ref w7, .ref w8])), (w1, .inr (7, [.ref w9, .ref w10, .ref w11, .ref w12, .ref w13, .ref w14, .ref w15, .int 0])), (w2, .inr (2, [.ref w23, .ref w24, .ref w25, .int 0, .int (-1), .int (-1)])), (w3, .inr (4, [.ref w26, .ref w27, .ref w28, .int 0, .int 0, .int 0, .int 45])), (w26, .inr (3, [.ref w1, .ref w2, .ref w29, .ref w30, .ref w31, .ref w32, .ref w33, .int 0, .int 0]))]) [0, 1, 9, 10, 11] rfl
          have hKc := hK.sub (tys' := []) [] rfl
          refine vx_calli (vx_runSX (As := [.ref w0, .int (((xs (1 : Int32).toNatClampNeg).toUInt32 % 65536).toInt32), .int (((xs (2 : Int32).toNatClampNeg).toUInt32 % 65536).toInt32), .int (xs (3 : Int32).toNatClampNeg), .int 1, .int 1, .int 0, .ref w52]) (rest := []) ⟨hx, hb, hml, hown, hq⟩ (c_L_role_no l hst tE adK adV dC dI w0 w1 w2 w3 w4 w5 w6 w7 w8 w9 w10 w11 w12 w13 w14 w15 w23 w24 w25 w26 w27 w28 w29 w30 w31 w32 w33 w52 (((xs (1 : Int32).toNatClampNeg).toUInt32 % 65536).toInt32) (((xs (2 : Int32).toNatClampNeg).toUInt32 % 65536).toInt32) (xs (3 : Int32).toNatClampNeg) 1 1 0 hok H.size) (tcSW 8 hq q_682 q_0 q_680 q_681 rfl rfl (by decide +kernel) ⟨Nat.le_of_ble_eq_true rfl, Nat.le_of_ble_eq_true rfl⟩) (preR.S (preR.of hPc hKc ham hS hA)) rfl rfl hl.1 rfl (lv_room (Nat.le_of_ble_eq_true rfl)) dL_law_281 ⟨Nat.le_of_ble_eq_true rfl, Nat.le_of_ble_eq_true rfl⟩) hS (fun q _ h => hA q (Nat.le_trans hS.1 h)) (fun q h => hA q (Nat.le_trans hS.1 h)) (fun q _ h => hA q (Nat.le_trans hS.1 h)) (fun E ce q9 u t H1 locs ht hvm hpx hB hz1 hk1 hS hce hcv hcl => ?_) (fun r_56 u t H1 locs ht hvm hw hB hz1 hk1 hS => ?_)
          · exact (hB : False).elim
          · have hP : va_P (dC, dI) cls [(w0, .inr (10, [.ref w1, .ref w2, .ref w3, .ref w4, .ref w5, .ref w6, .ref w7, .ref w8])), (w1, .inr (7, [.ref w9, .ref w10, .ref w11, .ref w12, .ref w13, .ref w14, .ref w15, .int 0])), (w9, .inl (w16, 8, .inl (fun _ => 0))), (w10, .inl (w17, 8, .inl (fun _ => 0))), (w11, .inl (w18, 8, .inl (fun _ => 0))), (w12, .inl (w19, 8, .inl (fun _ => 0))), (w13, .inl (w20, 8, .inl (fun _ => 0))), (w14, .inl (w21, 8, .inl (fun _ => 0))), (w15, .inl (w22, 8, .inl (fun _ => 0))), (w2, .inr (2, [.ref w23, .ref w24, .ref w25, .int 0, .int (-1), .int (-1)])), (w3, .inr (4, [.ref w26, .ref w27, .ref w28, .int 0, .int 0, .int 0, .int 45])), (w26, .inr (3, [.ref w1, .ref w2, .ref w29, .ref w30, .ref w31, .ref w32, .ref w33, .int 0, .int 0])), (w34, .inr (12, [.int 0, .ref w35, .ref w36, .ref w37, .int (-1), .int (-1), .int 0, .ref w38, .ref w39, .ref w40, .ref w41, .ref w42, .ref w43, .ref w44, .ref w45, .ref w46, .int 0, .int 0, .null, .int 0, .int 45, .ref w47, .ref w48, .ref w49, .ref w50, .ref w51])), (w35, .inr (14, [.int 0, .ref tE, .int 0])), (w36, .inr (14, [.int 0, .ref tE, .int 0])), (w52, .inl (w53, 1, .inr (.inl (fun _ => 0)))), (w54, .inl (w55, 1, .inr (.inr (.inr (.inl (fun _ => 0))))))] H1 := ro_keep hP hk1
            generalize H1 = H at hP hS ⊢
            refine W.widen (k := 92) (n := 4908) (Nat.le_of_ble_eq_true rfl) (Nat.le_of_ble_eq_true rfl) ?_
            have hw : r_56 = 1 := hw
            subst hw
            refine lv_istore (lv' := [(6, .int 1), (5, .int 0), (4, .ref w54), (3, .ref w52), (2, .ref w34), (1, .ref w0), (0, .ref b)]) hx hb dL_law_284 hl (by decide) rfl (fun ls hl => ?_)
            refine lv_aload_n hx hb dL_law_286 rfl (lv_at hl 4 rfl) ?_
            refine lv_aload_n hx hb dL_law_287 rfl (lv_at hl 6 rfl) ?_
            refine lv_iload hx hb dL_law_288 (lv_at hl 1 rfl) ?_
            refine lv_iconst (v := 1) hx hb dL_law_290 (by decide) ?_
            refine lv_iadd hx hb dL_law_291 ?_
            refine W.eq (congrArg (fun z : Int32 => F0 m 292 ls (.int z :: [.ref b, .ref w34])) (by decide : (0 + 1 : Int32) = 1)) ?_
            refine va_sld hx hb hX hbl hbA hS (i := 1) (by unfold vp_in; decide) dL_law_292 ?_
            refine lv_i2c (v := ((xs (1 : Int32).toNatClampNeg).toUInt32 % 65536).toInt32) hx hb dL_law_293 rfl ?_
            refine lv_aload_n hx hb dL_law_294 rfl (lv_at hl 6 rfl) ?_
            refine lv_iload hx hb dL_law_295 (lv_at hl 1 rfl) ?_
            refine lv_iconst (v := 2) hx hb dL_law_297 (by decide) ?_
            refine lv_iadd hx hb dL_law_298 ?_
            refine W.eq (congrArg (fun z : Int32 => F0 m 299 ls (.int z :: [.ref b, .int (((xs (1 : Int32).toNatClampNeg).toUInt32 % 65536).toInt32), .ref w34])) (by decide : (0 + 2 : Int32) = 2)) ?_
            refine va_sld hx hb hX hbl hbA hS (i := 2) (by unfold vp_in; decide) dL_law_299 ?_
            refine lv_i2c (v := ((xs (2 : Int32).toNatClampNeg).toUInt32 % 65536).toInt32) hx hb dL_law_300 rfl ?_
            refine lv_aload_n hx hb dL_law_301 rfl (lv_at hl 6 rfl) ?_
            refine lv_iload hx hb dL_law_302 (lv_at hl 1 rfl) ?_
            refine lv_iconst (v := 3) hx hb dL_law_304 (by decide) ?_
            refine lv_iadd hx hb dL_law_305 ?_
            refine W.eq (congrArg (fun z : Int32 => F0 m 306 ls (.int z :: [.ref b, .int (((xs (2 : Int32).toNatClampNeg).toUInt32 % 65536).toInt32), .int (((xs (1 : Int32).toNatClampNeg).toUInt32 % 65536).toInt32), .ref w34])) (by decide : (0 + 3 : Int32) = 3)) ?_
            refine va_sld hx hb hX hbl hbA hS (i := 3) (by unfold vp_in; decide) dL_law_306 ?_
            refine lv_aload_n hx hb dL_law_307 rfl (lv_at hl 6 rfl) ?_
            refine lv_iload hx hb dL_law_308 (lv_at hl 1 rfl) ?_
            refine lv_iconst (v := 4) hx hb dL_law_310 (by decide) ?_
            refine lv_iadd hx hb dL_law_311 ?_
            refine W.eq (congrArg (fun z : Int32 => F0 m 312 ls (.int z :: [.ref b, .int (xs (3 : Int32).toNatClampNeg), .int (((xs (2 : Int32).toNatClampNeg).toUInt32 % 65536).toInt32), .int (((xs (1 : Int32).toNatClampNeg).toUInt32 % 65536).toInt32), .ref w34])) (by decide : (0 + 4 : Int32) = 4)) ?_
            refine va_sld hx hb hX hbl hbA hS (i := 4) (by unfold vp_in; decide) dL_law_312 ?_
            refine lv_if_eq (tgt := 320) hx hb dL_law_313 (by decide) (fun c_57 => ?_) (fun c_57 => ?_)
            · exact absurd c_57 c_1
            · refine lv_iconst (v := 1) hx hb dL_law_316 (by decide) ?_
              refine lv_goto (tgt := 321) hx hb dL_law_317 (by decide) ?_
              refine lv_aload_n hx hb dL_law_321 rfl (lv_at hl 6 rfl) ?_
              refine lv_iload hx hb dL_law_322 (lv_at hl 1 rfl) ?_
              refine lv_iconst (v := 5) hx hb dL_law_324 (by decide) ?_
              refine lv_iadd hx hb dL_law_325 ?_
              refine W.eq (congrArg (fun z : Int32 => F0 m 326 ls (.int z :: [.ref b, .int 1, .int (xs (3 : Int32).toNatClampNeg), .int (((xs (2 : Int32).toNatClampNeg).toUInt32 % 65536).toInt32), .int (((xs (1 : Int32).toNatClampNeg).toUInt32 % 65536).toInt32), .ref w34])) (by decide : (0 + 5 : Int32) = 5)) ?_
              refine va_sld hx hb hX hbl hbA hS (i := 5) (by unfold vp_in; decide) dL_law_326 ?_
              refine lv_if_eq (tgt := 334) hx hb dL_law_327 (by decide) (fun c_58 => ?_) (fun c_58 => ?_)
              · exact absurd c_58 c_37
              · refine lv_iconst (v := 1) hx hb dL_law_330 (by decide) ?_
                refine lv_goto (tgt := 335) hx hb dL_law_331 (by decide) ?_
                refine lv_aload_n hx hb dL_law_335 rfl (lv_at hl 6 rfl) ?_
                refine lv_iload hx hb dL_law_336 (lv_at hl 1 rfl) ?_
                refine lv_bipush (v := 6) hx hb dL_law_338 (by decide) ?_
                refine lv_iadd hx hb dL_law_340 ?_
                refine W.eq (congrArg (fun z : Int32 => F0 m 341 ls (.int z :: [.ref b, .int 1, .int 1, .int (xs (3 : Int32).toNatClampNeg), .int (((xs (2 : Int32).toNatClampNeg).toUInt32 % 65536).toInt32), .int (((xs (1 : Int32).toNatClampNeg).toUInt32 % 65536).toInt32), .ref w34])) (by decide : (0 + 6 : Int32) = 6)) ?_
                refine va_sld hx hb hX hbl hbA hS (i := 6) (by unfold vp_in; decide) dL_law_341 ?_
                refine lv_if_eq (tgt := 349) hx hb dL_law_342 (by decide) (fun c_59 => ?_) (fun c_59 => ?_)
                · refine lv_iconst (v := 0) hx hb dL_law_349 (by decide) ?_
                  have hPc := hP.sub (ws' := [(w34, .inr (12, [.int 0, .ref w35, .ref w36, .ref w37, .int (-1), .int (-1), .int 0, .ref w38, .ref w39, .ref w40, .ref w41, .ref w42, .ref w43, .ref w44, .ref w45, .ref w46, .int 0, .int 0, .null, .int 0, .int 45, .ref w47, .ref w48, .ref w49, .ref w50, .ref w51])), (w35, .inr (14, [.int 0, .ref tE, .int 0])), (w36, .inr (14, [.int 0, .ref tE, .int 0]))]) [12, 13, 14] rfl
                  have hKc := hK.sub (tys' := []) [] rfl
                  have hDc := hD.sub (ws' := [(w34, .inr (12, [.int 0, .ref w35, .ref w36, .ref w37, .int (-1), .int (-1), .int 0, .ref w38, .ref w39, .ref w40, .ref w41, .ref w42, .ref w43, .ref w44, .ref w45, .ref w46, .int 0, .int 0, .null, .int 0, .int 45, .ref w47, .ref w48, .ref w49, .ref w50, .ref w51])), (w35, .inr (14, [.int 0, .ref tE, .int 0])), (w36, .inr (14, [.int 0, .ref tE, .int 0]))]) [12, 13, 14] (by decide) rfl
                  have hFc := va_free (wc := [(w34, .inr (12, [.int 0, .ref w35, .ref w36, .ref w37, .int (-1), .int (-1), .int 0, .ref w38, .ref w39, .ref w40, .ref w41, .ref w42, .ref w43, .ref w44, .ref w45, .ref w46, .int 0, .int 0, .null, .int 0, .int 45, .ref w47, .ref w48, .ref w49, .ref w50, .ref w51])), (w35, .inr (14, [.int 0, .ref tE, .int 0])), (w36, .inr (14, [.int 0, .ref tE, .int 0]))]) hD hS hA [12, 13, 14] rfl
                  refine va_calli (va_runV (As := [.int (((xs (1 : Int32).toNatClampNeg).toUInt32 % 65536).toInt32), .int (((xs (2 : Int32).toNatClampNeg).toUInt32 % 65536).toInt32), .int (xs (3 : Int32).toNatClampNeg), .int 1, .int 1, .int 0]) (rest := []) ⟨hx, hb, hml, hown, hq⟩ (c_M_role_no l hst tE adK adV dC dI w34 w35 w36 w37 w38 w39 w40 w41 w42 w43 w44 w45 w46 w47 w48 w49 w50 w51 0 (((xs (1 : Int32).toNatClampNeg).toUInt32 % 65536).toInt32) (((xs (2 : Int32).toNatClampNeg).toUInt32 % 65536).toInt32) (xs (3 : Int32).toNatClampNeg) 1 1 0 hok H.size) (tcV 6 hq q_1386 q_12 q_1383 q_1384 q_1385 rfl rfl (by decide +kernel) ⟨Nat.le_of_ble_eq_true rfl, Nat.le_of_ble_eq_true rfl⟩) (pre.V (va_recv hK hP (ci := 12) (q0 := 12) rfl rfl) (pre.of hPc hDc hKc ham hS hFc)) rfl rfl hl.1 rfl (lv_room (Nat.le_of_ble_eq_true rfl)) dL_law_350 ⟨Nat.le_of_ble_eq_true rfl, Nat.le_of_ble_eq_true rfl⟩) hS (fun q _ h => hFc q h) hFc (fun r_60 u t H1 locs ht hvm hw hB hz1 hk1 hS => ?_)
                  obtain ⟨hP1, hK1, hD1⟩ := hB
                  rw [ht] at hP1
                  have hK1 := va_K.moved hvm.symm hK1
                  obtain ⟨hP, hD⟩ := va_join (wr := [(w0, .inr (10, [.ref w1, .ref w2, .ref w3, .ref w4, .ref w5, .ref w6, .ref w7, .ref w8])), (w1, .inr (7, [.ref w9, .ref w10, .ref w11, .ref w12, .ref w13, .ref w14, .ref w15, .int 0])), (w9, .inl (w16, 8, .inl (fun _ => 0))), (w10, .inl (w17, 8, .inl (fun _ => 0))), (w11, .inl (w18, 8, .inl (fun _ => 0))), (w12, .inl (w19, 8, .inl (fun _ => 0))), (w13, .inl (w20, 8, .inl (fun _ => 0))), (w14, .inl (w21, 8, .inl (fun _ => 0))), (w15, .inl (w22, 8, .inl (fun _ => 0))), (w2, .inr (2, [.ref w23, .ref w24, .ref w25, .int 0, .int (-1), .int (-1)])), (w3, .inr (4, [.ref w26, .ref w27, .ref w28, .int 0, .int 0, .int 0, .int 45])), (w26, .inr (3, [.ref w1, .ref w2, .ref w29, .ref w30, .ref w31, .ref w32, .ref w33, .int 0, .int 0])), (w52, .inl (w53, 1, .inr (.inl (fun _ => 0)))), (w54, .inl (w55, 1, .inr (.inr (.inr (.inl (fun _ => 0))))))]) (w1 := [(w34, .inr (12, [.int 1, .ref w35, .ref w36, .ref w37, .int (-1), .int (-1), .int 0, .ref w38, .ref w39, .ref w40, .ref w41, .ref w42, .ref w43, .ref w44, .ref w45, .ref w46, .int 0, .int 0, .null, .int 0, .int 45, .ref w47, .ref w48, .ref w49, .ref w50, .ref w51]))]) (wc := [(w34, .inr (12, [.int 0, .ref w35, .ref w36, .ref w37, .int (-1), .int (-1), .int 0, .ref w38, .ref w39, .ref w40, .ref w41, .ref w42, .ref w43, .ref w44, .ref w45, .ref w46, .int 0, .int 0, .null, .int 0, .int 45, .ref w47, .ref w48, .ref w49, .ref w50, .ref w51])), (w35, .inr (14, [.int 0, .ref tE, .int 0])), (w36, .inr (14, [.int 0, .ref tE, .int 0]))]) hP hD [12, 13, 14] [0, 1, 2, 3, 4, 5, 6, 7, 8, 9, 10, 11, 15, 16] rfl rfl (by decide) (by decide) hk1 hFc hP1 hD1
                  have hK := (hK.sub (tys' := [(w16, .char), (w17, .char), (w18, .int), (w19, .boolean), (w20, .boolean), (w21, .boolean), (w22, .int), (w53, .long), (w55, .double)]) [0, 1, 2, 3, 4, 5, 6, 7, 8] rfl).app hK1
                  generalize H1 = H at hP hS ⊢
                  have hP : va_P (dC, dI) cls [(w0, .inr (10, [.ref w1, .ref w2, .ref w3, .ref w4, .ref w5, .ref w6, .ref w7, .ref w8])), (w1, .inr (7, [.ref w9, .ref w10, .ref w11, .ref w12, .ref w13, .ref w14, .ref w15, .int 0])), (w9, .inl (w16, 8, .inl (fun _ => 0))), (w10, .inl (w17, 8, .inl (fun _ => 0))), (w11, .inl (w18, 8, .inl (fun _ => 0))), (w12, .inl (w19, 8, .inl (fun _ => 0))), (w13, .inl (w20, 8, .inl (fun _ => 0))), (w14, .inl (w21, 8, .inl (fun _ => 0))), (w15, .inl (w22, 8, .inl (fun _ => 0))), (w2, .inr (2, [.ref w23, .ref w24, .ref w25, .int 0, .int (-1), .int (-1)])), (w3, .inr (4, [.ref w26, .ref w27, .ref w28, .int 0, .int 0, .int 0, .int 45])), (w26, .inr (3, [.ref w1, .ref w2, .ref w29, .ref w30, .ref w31, .ref w32, .ref w33, .int 0, .int 0])), (w52, .inl (w53, 1, .inr (.inl (fun _ => 0)))), (w54, .inl (w55, 1, .inr (.inr (.inr (.inl (fun _ => 0)))))), (w34, .inr (12, [.int 1, .ref w35, .ref w36, .ref w37, .int (-1), .int (-1), .int 0, .ref w38, .ref w39, .ref w40, .ref w41, .ref w42, .ref w43, .ref w44, .ref w45, .ref w46, .int 0, .int 0, .null, .int 0, .int 45, .ref w47, .ref w48, .ref w49, .ref w50, .ref w51]))] H := hP
                  have hD : va_D A [(w0, .inr (10, [.ref w1, .ref w2, .ref w3, .ref w4, .ref w5, .ref w6, .ref w7, .ref w8])), (w1, .inr (7, [.ref w9, .ref w10, .ref w11, .ref w12, .ref w13, .ref w14, .ref w15, .int 0])), (w9, .inl (w16, 8, .inl (fun _ => 0))), (w10, .inl (w17, 8, .inl (fun _ => 0))), (w11, .inl (w18, 8, .inl (fun _ => 0))), (w12, .inl (w19, 8, .inl (fun _ => 0))), (w13, .inl (w20, 8, .inl (fun _ => 0))), (w14, .inl (w21, 8, .inl (fun _ => 0))), (w15, .inl (w22, 8, .inl (fun _ => 0))), (w2, .inr (2, [.ref w23, .ref w24, .ref w25, .int 0, .int (-1), .int (-1)])), (w3, .inr (4, [.ref w26, .ref w27, .ref w28, .int 0, .int 0, .int 0, .int 45])), (w26, .inr (3, [.ref w1, .ref w2, .ref w29, .ref w30, .ref w31, .ref w32, .ref w33, .int 0, .int 0])), (w52, .inl (w53, 1, .inr (.inl (fun _ => 0)))), (w54, .inl (w55, 1, .inr (.inr (.inr (.inl (fun _ => 0)))))), (w34, .inr (12, [.int 1, .ref w35, .ref w36, .ref w37, .int (-1), .int (-1), .int 0, .ref w38, .ref w39, .ref w40, .ref w41, .ref w42, .ref w43, .ref w44, .ref w45, .ref w46, .int 0, .int 0, .null, .int 0, .int 45, .ref w47, .ref w48, .ref w49, .ref w50, .ref w51]))] := hD
                  have hK : va_K (dC, dI) cls [(w16, .char), (w17, .char), (w18, .int), (w19, .boolean), (w20, .boolean), (w21, .boolean), (w22, .int), (w53, .long), (w55, .double)] s := hK
                  refine W.widen (k := 92) (n := 4908) (Nat.le_of_ble_eq_true rfl) (Nat.le_of_ble_eq_true rfl) ?_
                  refine lv_istore (lv' := [(7, .int r_60), (6, .int 1), (5, .int 0), (4, .ref w54), (3, .ref w52), (2, .ref w34), (1, .ref w0), (0, .ref b)]) hx hb dL_law_353 hl (by decide) rfl (fun ls hl => ?_)
                  refine lv_aload_n hx hb dL_law_355 rfl (lv_at hl 5 rfl) ?_
                  have hPc := hP.sub (ws' := [(w34, .inr (12, [.int 1, .ref w35, .ref w36, .ref w37, .int (-1), .int (-1), .int 0, .ref w38, .ref w39, .ref w40, .ref w41, .ref w42, .ref w43, .ref w44, .ref w45, .ref w46, .int 0, .int 0, .null, .int 0, .int 45, .ref w47, .ref w48, .ref w49, .ref w50, .ref w51]))]) [14] rfl
                  have hKc := hK.sub (tys' := []) [] rfl
                  refine va_calli (va_runV (As := []) (rest := []) ⟨hx, hb, hml, hown, hq⟩ (c_thrown l hst tE adK adV dC dI w34 w35 w36 w37 w38 w39 w40 w41 w42 w43 w44 w45 w46 w47 w48 w49 w50 w51 1 H.size) (tcV 0 hq q_1264 q_12 q_1261 q_1262 q_1263 rfl rfl (by decide +kernel) ⟨Nat.le_of_ble_eq_true rfl, Nat.le_of_ble_eq_true rfl⟩) (preR.V (va_recv hK hP (ci := 12) (q0 := 14) rfl rfl) (preR.of hPc hKc ham hS hA)) rfl rfl hl.1 rfl (lv_room (Nat.le_of_ble_eq_true rfl)) dL_law_356 ⟨Nat.le_of_ble_eq_true rfl, Nat.le_of_ble_eq_true rfl⟩) hS (fun q _ h => hA q (Nat.le_trans hS.1 h)) (fun q h => hA q (Nat.le_trans hS.1 h)) (fun r_61 u t H1 locs ht hvm hw hB hz1 hk1 hS => ?_)
                  have hP : va_P (dC, dI) cls [(w0, .inr (10, [.ref w1, .ref w2, .ref w3, .ref w4, .ref w5, .ref w6, .ref w7, .ref w8])), (w1, .inr (7, [.ref w9, .ref w10, .ref w11, .ref w12, .ref w13, .ref w14, .ref w15, .int 0])), (w9, .inl (w16, 8, .inl (fun _ => 0))), (w10, .inl (w17, 8, .inl (fun _ => 0))), (w11, .inl (w18, 8, .inl (fun _ => 0))), (w12, .inl (w19, 8, .inl (fun _ => 0))), (w13, .inl (w20, 8, .inl (fun _ => 0))), (w14, .inl (w21, 8, .inl (fun _ => 0))), (w15, .inl (w22, 8, .inl (fun _ => 0))), (w2, .inr (2, [.ref w23, .ref w24, .ref w25, .int 0, .int (-1), .int (-1)])), (w3, .inr (4, [.ref w26, .ref w27, .ref w28, .int 0, .int 0, .int 0, .int 45])), (w26, .inr (3, [.ref w1, .ref w2, .ref w29, .ref w30, .ref w31, .ref w32, .ref w33, .int 0, .int 0])), (w52, .inl (w53, 1, .inr (.inl (fun _ => 0)))), (w54, .inl (w55, 1, .inr (.inr (.inr (.inl (fun _ => 0)))))), (w34, .inr (12, [.int 1, .ref w35, .ref w36, .ref w37, .int (-1), .int (-1), .int 0, .ref w38, .ref w39, .ref w40, .ref w41, .ref w42, .ref w43, .ref w44, .ref w45, .ref w46, .int 0, .int 0, .null, .int 0, .int 45, .ref w47, .ref w48, .ref w49, .ref w50, .ref w51]))] H1 := ro_keep hP hk1
                  generalize H1 = H at hP hS ⊢
                  refine W.widen (k := 92) (n := 4908) (Nat.le_of_ble_eq_true rfl) (Nat.le_of_ble_eq_true rfl) ?_
                  have hw : r_61 = 1 := hw
                  subst hw
                  refine lv_iload hx hb dL_law_359 (lv_at hl 1 rfl) ?_
                  refine lv_icmp_eq (tgt := 366) hx hb dL_law_361 (by decide) (fun c_62 => ?_) (fun c_62 => ?_)
                  · refine lv_iload hx hb dL_law_366 (lv_at hl 1 rfl) ?_
                    refine lv_if_ne (tgt := 383) hx hb dL_law_368 (by decide) (fun c_63 => ?_) (fun c_63 => ?_)
                    · refine lv_goto (tgt := 2585) hx hb dL_law_383 (by decide) ?_
                      refine W.widen (k := 600002) (n := 7302232) (Nat.le_of_ble_eq_true rfl) (Nat.le_of_ble_eq_true rfl) ?_
                      exact law_end C0 hA hA2 hS (lv_sub hl [7, 2] rfl)
                    · exact absurd c_63 (by decide)
                  · exact absurd c_62 (by decide)
                · exact absurd c_55 c_59
        · refine lv_iconst (v := 1) hx hb dL_law_275 (by decide) ?_
          refine lv_goto (tgt := 280) hx hb dL_law_276 (by decide) ?_
          refine lv_aload_n hx hb dL_law_280 rfl (lv_at hl 2 rfl) ?_
          have hPc := hP.sub (ws' := [(w0, .inr (10, [.ref w1, .ref w2, .ref w3, .ref w4, .ref w5, .ref w6, .ref w7, .ref w8])), (w1, .inr (7, [.ref w9, .ref w10, .ref w11, .ref w12, .ref w13, .ref w14, .ref w15, .int 0])), (w2, .inr (2, [.ref w23, .ref w24, .ref w25, .int 0, .int (-1), .int (-1)])), (w3, .inr (4, [.ref w26, .ref w27, .ref w28, .int 0, .int 0, .int 0, .int 45])), (w26, .inr (3, [.ref w1, .ref w2, .ref w29, .ref w30, .ref w31, .ref w32, .ref w33, .int 0, .int 0]))]) [0, 1, 9, 10, 11] rfl
          have hKc := hK.sub (tys' := []) [] rfl
          refine vx_calli (vx_runSX (As := [.ref w0, .int (((xs (1 : Int32).toNatClampNeg).toUInt32 % 65536).toInt32), .int (((xs (2 : Int32).toNatClampNeg).toUInt32 % 65536).toInt32), .int (xs (3 : Int32).toNatClampNeg), .int 1, .int 1, .int 1, .ref w52]) (rest := []) ⟨hx, hb, hml, hown, hq⟩ (c_L_role_no l hst tE adK adV dC dI w0 w1 w2 w3 w4 w5 w6 w7 w8 w9 w10 w11 w12 w13 w14 w15 w23 w24 w25 w26 w27 w28 w29 w30 w31 w32 w33 w52 (((xs (1 : Int32).toNatClampNeg).toUInt32 % 65536).toInt32) (((xs (2 : Int32).toNatClampNeg).toUInt32 % 65536).toInt32) (xs (3 : Int32).toNatClampNeg) 1 1 1 hok H.size) (tcSW 8 hq q_682 q_0 q_680 q_681 rfl rfl (by decide +kernel) ⟨Nat.le_of_ble_eq_true rfl, Nat.le_of_ble_eq_true rfl⟩) (preR.S (preR.of hPc hKc ham hS hA)) rfl rfl hl.1 rfl (lv_room (Nat.le_of_ble_eq_true rfl)) dL_law_281 ⟨Nat.le_of_ble_eq_true rfl, Nat.le_of_ble_eq_true rfl⟩) hS (fun q _ h => hA q (Nat.le_trans hS.1 h)) (fun q h => hA q (Nat.le_trans hS.1 h)) (fun q _ h => hA q (Nat.le_trans hS.1 h)) (fun E ce q9 u t H1 locs ht hvm hpx hB hz1 hk1 hS hce hcv hcl => ?_) (fun r_64 u t H1 locs ht hvm hw hB hz1 hk1 hS => ?_)
          · exact (hB : False).elim
          · have hP : va_P (dC, dI) cls [(w0, .inr (10, [.ref w1, .ref w2, .ref w3, .ref w4, .ref w5, .ref w6, .ref w7, .ref w8])), (w1, .inr (7, [.ref w9, .ref w10, .ref w11, .ref w12, .ref w13, .ref w14, .ref w15, .int 0])), (w9, .inl (w16, 8, .inl (fun _ => 0))), (w10, .inl (w17, 8, .inl (fun _ => 0))), (w11, .inl (w18, 8, .inl (fun _ => 0))), (w12, .inl (w19, 8, .inl (fun _ => 0))), (w13, .inl (w20, 8, .inl (fun _ => 0))), (w14, .inl (w21, 8, .inl (fun _ => 0))), (w15, .inl (w22, 8, .inl (fun _ => 0))), (w2, .inr (2, [.ref w23, .ref w24, .ref w25, .int 0, .int (-1), .int (-1)])), (w3, .inr (4, [.ref w26, .ref w27, .ref w28, .int 0, .int 0, .int 0, .int 45])), (w26, .inr (3, [.ref w1, .ref w2, .ref w29, .ref w30, .ref w31, .ref w32, .ref w33, .int 0, .int 0])), (w34, .inr (12, [.int 0, .ref w35, .ref w36, .ref w37, .int (-1), .int (-1), .int 0, .ref w38, .ref w39, .ref w40, .ref w41, .ref w42, .ref w43, .ref w44, .ref w45, .ref w46, .int 0, .int 0, .null, .int 0, .int 45, .ref w47, .ref w48, .ref w49, .ref w50, .ref w51])), (w35, .inr (14, [.int 0, .ref tE, .int 0])), (w36, .inr (14, [.int 0, .ref tE, .int 0])), (w52, .inl (w53, 1, .inr (.inl (fun _ => 0)))), (w54, .inl (w55, 1, .inr (.inr (.inr (.inl (fun _ => 0))))))] H1 := ro_keep hP hk1
            generalize H1 = H at hP hS ⊢
            refine W.widen (k := 92) (n := 4908) (Nat.le_of_ble_eq_true rfl) (Nat.le_of_ble_eq_true rfl) ?_
            have hw : r_64 = 1 := hw
            subst hw
            refine lv_istore (lv' := [(6, .int 1), (5, .int 0), (4, .ref w54), (3, .ref w52), (2, .ref w34), (1, .ref w0), (0, .ref b)]) hx hb dL_law_284 hl (by decide) rfl (fun ls hl => ?_)
            refine lv_aload_n hx hb dL_law_286 rfl (lv_at hl 4 rfl) ?_
            refine lv_aload_n hx hb dL_law_287 rfl (lv_at hl 6 rfl) ?_
            refine lv_iload hx hb dL_law_288 (lv_at hl 1 rfl) ?_
            refine lv_iconst (v := 1) hx hb dL_law_290 (by decide) ?_
            refine lv_iadd hx hb dL_law_291 ?_
            refine W.eq (congrArg (fun z : Int32 => F0 m 292 ls (.int z :: [.ref b, .ref w34])) (by decide : (0 + 1 : Int32) = 1)) ?_
            refine va_sld hx hb hX hbl hbA hS (i := 1) (by unfold vp_in; decide) dL_law_292 ?_
            refine lv_i2c (v := ((xs (1 : Int32).toNatClampNeg).toUInt32 % 65536).toInt32) hx hb dL_law_293 rfl ?_
            refine lv_aload_n hx hb dL_law_294 rfl (lv_at hl 6 rfl) ?_
            refine lv_iload hx hb dL_law_295 (lv_at hl 1 rfl) ?_
            refine lv_iconst (v := 2) hx hb dL_law_297 (by decide) ?_
            refine lv_iadd hx hb dL_law_298 ?_
            refine W.eq (congrArg (fun z : Int32 => F0 m 299 ls (.int z :: [.ref b, .int (((xs (1 : Int32).toNatClampNeg).toUInt32 % 65536).toInt32), .ref w34])) (by decide : (0 + 2 : Int32) = 2)) ?_
            refine va_sld hx hb hX hbl hbA hS (i := 2) (by unfold vp_in; decide) dL_law_299 ?_
            refine lv_i2c (v := ((xs (2 : Int32).toNatClampNeg).toUInt32 % 65536).toInt32) hx hb dL_law_300 rfl ?_
            refine lv_aload_n hx hb dL_law_301 rfl (lv_at hl 6 rfl) ?_
            refine lv_iload hx hb dL_law_302 (lv_at hl 1 rfl) ?_
            refine lv_iconst (v := 3) hx hb dL_law_304 (by decide) ?_
            refine lv_iadd hx hb dL_law_305 ?_
            refine W.eq (congrArg (fun z : Int32 => F0 m 306 ls (.int z :: [.ref b, .int (((xs (2 : Int32).toNatClampNeg).toUInt32 % 65536).toInt32), .int (((xs (1 : Int32).toNatClampNeg).toUInt32 % 65536).toInt32), .ref w34])) (by decide : (0 + 3 : Int32) = 3)) ?_
            refine va_sld hx hb hX hbl hbA hS (i := 3) (by unfold vp_in; decide) dL_law_306 ?_
            refine lv_aload_n hx hb dL_law_307 rfl (lv_at hl 6 rfl) ?_
            refine lv_iload hx hb dL_law_308 (lv_at hl 1 rfl) ?_
            refine lv_iconst (v := 4) hx hb dL_law_310 (by decide) ?_
            refine lv_iadd hx hb dL_law_311 ?_
            refine W.eq (congrArg (fun z : Int32 => F0 m 312 ls (.int z :: [.ref b, .int (xs (3 : Int32).toNatClampNeg), .int (((xs (2 : Int32).toNatClampNeg).toUInt32 % 65536).toInt32), .int (((xs (1 : Int32).toNatClampNeg).toUInt32 % 65536).toInt32), .ref w34])) (by decide : (0 + 4 : Int32) = 4)) ?_
            refine va_sld hx hb hX hbl hbA hS (i := 4) (by unfold vp_in; decide) dL_law_312 ?_
            refine lv_if_eq (tgt := 320) hx hb dL_law_313 (by decide) (fun c_65 => ?_) (fun c_65 => ?_)
            · exact absurd c_65 c_1
            · refine lv_iconst (v := 1) hx hb dL_law_316 (by decide) ?_
              refine lv_goto (tgt := 321) hx hb dL_law_317 (by decide) ?_
              refine lv_aload_n hx hb dL_law_321 rfl (lv_at hl 6 rfl) ?_
              refine lv_iload hx hb dL_law_322 (lv_at hl 1 rfl) ?_
              refine lv_iconst (v := 5) hx hb dL_law_324 (by decide) ?_
              refine lv_iadd hx hb dL_law_325 ?_
              refine W.eq (congrArg (fun z : Int32 => F0 m 326 ls (.int z :: [.ref b, .int 1, .int (xs (3 : Int32).toNatClampNeg), .int (((xs (2 : Int32).toNatClampNeg).toUInt32 % 65536).toInt32), .int (((xs (1 : Int32).toNatClampNeg).toUInt32 % 65536).toInt32), .ref w34])) (by decide : (0 + 5 : Int32) = 5)) ?_
              refine va_sld hx hb hX hbl hbA hS (i := 5) (by unfold vp_in; decide) dL_law_326 ?_
              refine lv_if_eq (tgt := 334) hx hb dL_law_327 (by decide) (fun c_66 => ?_) (fun c_66 => ?_)
              · exact absurd c_66 c_37
              · refine lv_iconst (v := 1) hx hb dL_law_330 (by decide) ?_
                refine lv_goto (tgt := 335) hx hb dL_law_331 (by decide) ?_
                refine lv_aload_n hx hb dL_law_335 rfl (lv_at hl 6 rfl) ?_
                refine lv_iload hx hb dL_law_336 (lv_at hl 1 rfl) ?_
                refine lv_bipush (v := 6) hx hb dL_law_338 (by decide) ?_
                refine lv_iadd hx hb dL_law_340 ?_
                refine W.eq (congrArg (fun z : Int32 => F0 m 341 ls (.int z :: [.ref b, .int 1, .int 1, .int (xs (3 : Int32).toNatClampNeg), .int (((xs (2 : Int32).toNatClampNeg).toUInt32 % 65536).toInt32), .int (((xs (1 : Int32).toNatClampNeg).toUInt32 % 65536).toInt32), .ref w34])) (by decide : (0 + 6 : Int32) = 6)) ?_
                refine va_sld hx hb hX hbl hbA hS (i := 6) (by unfold vp_in; decide) dL_law_341 ?_
                refine lv_if_eq (tgt := 349) hx hb dL_law_342 (by decide) (fun c_67 => ?_) (fun c_67 => ?_)
                · exact absurd c_67 c_55
                · refine lv_iconst (v := 1) hx hb dL_law_345 (by decide) ?_
                  refine lv_goto (tgt := 350) hx hb dL_law_346 (by decide) ?_
                  have hPc := hP.sub (ws' := [(w34, .inr (12, [.int 0, .ref w35, .ref w36, .ref w37, .int (-1), .int (-1), .int 0, .ref w38, .ref w39, .ref w40, .ref w41, .ref w42, .ref w43, .ref w44, .ref w45, .ref w46, .int 0, .int 0, .null, .int 0, .int 45, .ref w47, .ref w48, .ref w49, .ref w50, .ref w51])), (w35, .inr (14, [.int 0, .ref tE, .int 0])), (w36, .inr (14, [.int 0, .ref tE, .int 0]))]) [12, 13, 14] rfl
                  have hKc := hK.sub (tys' := []) [] rfl
                  have hDc := hD.sub (ws' := [(w34, .inr (12, [.int 0, .ref w35, .ref w36, .ref w37, .int (-1), .int (-1), .int 0, .ref w38, .ref w39, .ref w40, .ref w41, .ref w42, .ref w43, .ref w44, .ref w45, .ref w46, .int 0, .int 0, .null, .int 0, .int 45, .ref w47, .ref w48, .ref w49, .ref w50, .ref w51])), (w35, .inr (14, [.int 0, .ref tE, .int 0])), (w36, .inr (14, [.int 0, .ref tE, .int 0]))]) [12, 13, 14] (by decide) rfl
                  have hFc := va_free (wc := [(w34, .inr (12, [.int 0, .ref w35, .ref w36, .ref w37, .int (-1), .int (-1), .int 0, .ref w38, .ref w39, .ref w40, .ref w41, .ref w42, .ref w43, .ref w44, .ref w45, .ref w46, .int 0, .int 0, .null, .int 0, .int 45, .ref w47, .ref w48, .ref w49, .ref w50, .ref w51])), (w35, .inr (14, [.int 0, .ref tE, .int 0])), (w36, .inr (14, [.int 0, .ref tE, .int 0]))]) hD hS hA [12, 13, 14] rfl
                  refine va_calli (va_runV (As := [.int (((xs (1 : Int32).toNatClampNeg).toUInt32 % 65536).toInt32), .int (((xs (2 : Int32).toNatClampNeg).toUInt32 % 65536).toInt32), .int (xs (3 : Int32).toNatClampNeg), .int 1, .int 1, .int 1]) (rest := []) ⟨hx, hb, hml, hown, hq⟩ (c_M_role_no l hst tE adK adV dC dI w34 w35 w36 w37 w38 w39 w40 w41 w42 w43 w44 w45 w46 w47 w48 w49 w50 w51 0 (((xs (1 : Int32).toNatClampNeg).toUInt32 % 65536).toInt32) (((xs (2 : Int32).toNatClampNeg).toUInt32 % 65536).toInt32) (xs (3 : Int32).toNatClampNeg) 1 1 1 hok H.size) (tcV 6 hq q_1386 q_12 q_1383 q_1384 q_1385 rfl rfl (by decide +kernel) ⟨Nat.le_of_ble_eq_true rfl, Nat.le_of_ble_eq_true rfl⟩) (pre.V (va_recv hK hP (ci := 12) (q0 := 12) rfl rfl) (pre.of hPc hDc hKc ham hS hFc)) rfl rfl hl.1 rfl (lv_room (Nat.le_of_ble_eq_true rfl)) dL_law_350 ⟨Nat.le_of_ble_eq_true rfl, Nat.le_of_ble_eq_true rfl⟩) hS (fun q _ h => hFc q h) hFc (fun r_68 u t H1 locs ht hvm hw hB hz1 hk1 hS => ?_)
                  obtain ⟨hP1, hK1, hD1⟩ := hB
                  rw [ht] at hP1
                  have hK1 := va_K.moved hvm.symm hK1
                  obtain ⟨hP, hD⟩ := va_join (wr := [(w0, .inr (10, [.ref w1, .ref w2, .ref w3, .ref w4, .ref w5, .ref w6, .ref w7, .ref w8])), (w1, .inr (7, [.ref w9, .ref w10, .ref w11, .ref w12, .ref w13, .ref w14, .ref w15, .int 0])), (w9, .inl (w16, 8, .inl (fun _ => 0))), (w10, .inl (w17, 8, .inl (fun _ => 0))), (w11, .inl (w18, 8, .inl (fun _ => 0))), (w12, .inl (w19, 8, .inl (fun _ => 0))), (w13, .inl (w20, 8, .inl (fun _ => 0))), (w14, .inl (w21, 8, .inl (fun _ => 0))), (w15, .inl (w22, 8, .inl (fun _ => 0))), (w2, .inr (2, [.ref w23, .ref w24, .ref w25, .int 0, .int (-1), .int (-1)])), (w3, .inr (4, [.ref w26, .ref w27, .ref w28, .int 0, .int 0, .int 0, .int 45])), (w26, .inr (3, [.ref w1, .ref w2, .ref w29, .ref w30, .ref w31, .ref w32, .ref w33, .int 0, .int 0])), (w52, .inl (w53, 1, .inr (.inl (fun _ => 0)))), (w54, .inl (w55, 1, .inr (.inr (.inr (.inl (fun _ => 0))))))]) (w1 := [(w34, .inr (12, [.int 1, .ref w35, .ref w36, .ref w37, .int (-1), .int (-1), .int 0, .ref w38, .ref w39, .ref w40, .ref w41, .ref w42, .ref w43, .ref w44, .ref w45, .ref w46, .int 0, .int 0, .null, .int 0, .int 45, .ref w47, .ref w48, .ref w49, .ref w50, .ref w51]))]) (wc := [(w34, .inr (12, [.int 0, .ref w35, .ref w36, .ref w37, .int (-1), .int (-1), .int 0, .ref w38, .ref w39, .ref w40, .ref w41, .ref w42, .ref w43, .ref w44, .ref w45, .ref w46, .int 0, .int 0, .null, .int 0, .int 45, .ref w47, .ref w48, .ref w49, .ref w50, .ref w51])), (w35, .inr (14, [.int 0, .ref tE, .int 0])), (w36, .inr (14, [.int 0, .ref tE, .int 0]))]) hP hD [12, 13, 14] [0, 1, 2, 3, 4, 5, 6, 7, 8, 9, 10, 11, 15, 16] rfl rfl (by decide) (by decide) hk1 hFc hP1 hD1
                  have hK := (hK.sub (tys' := [(w16, .char), (w17, .char), (w18, .int), (w19, .boolean), (w20, .boolean), (w21, .boolean), (w22, .int), (w53, .long), (w55, .double)]) [0, 1, 2, 3, 4, 5, 6, 7, 8] rfl).app hK1
                  generalize H1 = H at hP hS ⊢
                  have hP : va_P (dC, dI) cls [(w0, .inr (10, [.ref w1, .ref w2, .ref w3, .ref w4, .ref w5, .ref w6, .ref w7, .ref w8])), (w1, .inr (7, [.ref w9, .ref w10, .ref w11, .ref w12, .ref w13, .ref w14, .ref w15, .int 0])), (w9, .inl (w16, 8, .inl (fun _ => 0))), (w10, .inl (w17, 8, .inl (fun _ => 0))), (w11, .inl (w18, 8, .inl (fun _ => 0))), (w12, .inl (w19, 8, .inl (fun _ => 0))), (w13, .inl (w20, 8, .inl (fun _ => 0))), (w14, .inl (w21, 8, .inl (fun _ => 0))), (w15, .inl (w22, 8, .inl (fun _ => 0))), (w2, .inr (2, [.ref w23, .ref w24, .ref w25, .int 0, .int (-1), .int (-1)])), (w3, .inr (4, [.ref w26, .ref w27, .ref w28, .int 0, .int 0, .int 0, .int 45])), (w26, .inr (3, [.ref w1, .ref w2, .ref w29, .ref w30, .ref w31, .ref w32, .ref w33, .int 0, .int 0])), (w52, .inl (w53, 1, .inr (.inl (fun _ => 0)))), (w54, .inl (w55, 1, .inr (.inr (.inr (.inl (fun _ => 0)))))), (w34, .inr (12, [.int 1, .ref w35, .ref w36, .ref w37, .int (-1), .int (-1), .int 0, .ref w38, .ref w39, .ref w40, .ref w41, .ref w42, .ref w43, .ref w44, .ref w45, .ref w46, .int 0, .int 0, .null, .int 0, .int 45, .ref w47, .ref w48, .ref w49, .ref w50, .ref w51]))] H := hP
                  have hD : va_D A [(w0, .inr (10, [.ref w1, .ref w2, .ref w3, .ref w4, .ref w5, .ref w6, .ref w7, .ref w8])), (w1, .inr (7, [.ref w9, .ref w10, .ref w11, .ref w12, .ref w13, .ref w14, .ref w15, .int 0])), (w9, .inl (w16, 8, .inl (fun _ => 0))), (w10, .inl (w17, 8, .inl (fun _ => 0))), (w11, .inl (w18, 8, .inl (fun _ => 0))), (w12, .inl (w19, 8, .inl (fun _ => 0))), (w13, .inl (w20, 8, .inl (fun _ => 0))), (w14, .inl (w21, 8, .inl (fun _ => 0))), (w15, .inl (w22, 8, .inl (fun _ => 0))), (w2, .inr (2, [.ref w23, .ref w24, .ref w25, .int 0, .int (-1), .int (-1)])), (w3, .inr (4, [.ref w26, .ref w27, .ref w28, .int 0, .int 0, .int 0, .int 45])), (w26, .inr (3, [.ref w1, .ref w2, .ref w29, .ref w30, .ref w31, .ref w32, .ref w33, .int 0, .int 0])), (w52, .inl (w53, 1, .inr (.inl (fun _ => 0)))), (w54, .inl (w55, 1, .inr (.inr (.inr (.inl (fun _ => 0)))))), (w34, .inr (12, [.int 1, .ref w35, .ref w36, .ref w37, .int (-1), .int (-1), .int 0, .ref w38, .ref w39, .ref w40, .ref w41, .ref w42, .ref w43, .ref w44, .ref w45, .ref w46, .int 0, .int 0, .null, .int 0, .int 45, .ref w47, .ref w48, .ref w49, .ref w50, .ref w51]))] := hD
                  have hK : va_K (dC, dI) cls [(w16, .char), (w17, .char), (w18, .int), (w19, .boolean), (w20, .boolean), (w21, .boolean), (w22, .int), (w53, .long), (w55, .double)] s := hK
                  refine W.widen (k := 92) (n := 4908) (Nat.le_of_ble_eq_true rfl) (Nat.le_of_ble_eq_true rfl) ?_
                  refine lv_istore (lv' := [(7, .int r_68), (6, .int 1), (5, .int 0), (4, .ref w54), (3, .ref w52), (2, .ref w34), (1, .ref w0), (0, .ref b)]) hx hb dL_law_353 hl (by decide) rfl (fun ls hl => ?_)
                  refine lv_aload_n hx hb dL_law_355 rfl (lv_at hl 5 rfl) ?_
                  have hPc := hP.sub (ws' := [(w34, .inr (12, [.int 1, .ref w35, .ref w36, .ref w37, .int (-1), .int (-1), .int 0, .ref w38, .ref w39, .ref w40, .ref w41, .ref w42, .ref w43, .ref w44, .ref w45, .ref w46, .int 0, .int 0, .null, .int 0, .int 45, .ref w47, .ref w48, .ref w49, .ref w50, .ref w51]))]) [14] rfl
                  have hKc := hK.sub (tys' := []) [] rfl
                  refine va_calli (va_runV (As := []) (rest := []) ⟨hx, hb, hml, hown, hq⟩ (c_thrown l hst tE adK adV dC dI w34 w35 w36 w37 w38 w39 w40 w41 w42 w43 w44 w45 w46 w47 w48 w49 w50 w51 1 H.size) (tcV 0 hq q_1264 q_12 q_1261 q_1262 q_1263 rfl rfl (by decide +kernel) ⟨Nat.le_of_ble_eq_true rfl, Nat.le_of_ble_eq_true rfl⟩) (preR.V (va_recv hK hP (ci := 12) (q0 := 14) rfl rfl) (preR.of hPc hKc ham hS hA)) rfl rfl hl.1 rfl (lv_room (Nat.le_of_ble_eq_true rfl)) dL_law_356 ⟨Nat.le_of_ble_eq_true rfl, Nat.le_of_ble_eq_true rfl⟩) hS (fun q _ h => hA q (Nat.le_trans hS.1 h)) (fun q h => hA q (Nat.le_trans hS.1 h)) (fun r_69 u t H1 locs ht hvm hw hB hz1 hk1 hS => ?_)
                  have hP : va_P (dC, dI) cls [(w0, .inr (10, [.ref w1, .ref w2, .ref w3, .ref w4, .ref w5, .ref w6, .ref w7, .ref w8])), (w1, .inr (7, [.ref w9, .ref w10, .ref w11, .ref w12, .ref w13, .ref w14, .ref w15, .int 0])), (w9, .inl (w16, 8, .inl (fun _ => 0))), (w10, .inl (w17, 8, .inl (fun _ => 0))), (w11, .inl (w18, 8, .inl (fun _ => 0))), (w12, .inl (w19, 8, .inl (fun _ => 0))), (w13, .inl (w20, 8, .inl (fun _ => 0))), (w14, .inl (w21, 8, .inl (fun _ => 0))), (w15, .inl (w22, 8, .inl (fun _ => 0))), (w2, .inr (2, [.ref w23, .ref w24, .ref w25, .int 0, .int (-1), .int (-1)])), (w3, .inr (4, [.ref w26, .ref w27, .ref w28, .int 0, .int 0, .int 0, .int 45])), (w26, .inr (3, [.ref w1, .ref w2, .ref w29, .ref w30, .ref w31, .ref w32, .ref w33, .int 0, .int 0])), (w52, .inl (w53, 1, .inr (.inl (fun _ => 0)))), (w54, .inl (w55, 1, .inr (.inr (.inr (.inl (fun _ => 0)))))), (w34, .inr (12, [.int 1, .ref w35, .ref w36, .ref w37, .int (-1), .int (-1), .int 0, .ref w38, .ref w39, .ref w40, .ref w41, .ref w42, .ref w43, .ref w44, .ref w45, .ref w46, .int 0, .int 0, .null, .int 0, .int 45, .ref w47, .ref w48, .ref w49, .ref w50, .ref w51]))] H1 := ro_keep hP hk1
                  generalize H1 = H at hP hS ⊢
                  refine W.widen (k := 92) (n := 4908) (Nat.le_of_ble_eq_true rfl) (Nat.le_of_ble_eq_true rfl) ?_
                  have hw : r_69 = 1 := hw
                  subst hw
                  refine lv_iload hx hb dL_law_359 (lv_at hl 1 rfl) ?_
                  refine lv_icmp_eq (tgt := 366) hx hb dL_law_361 (by decide) (fun c_70 => ?_) (fun c_70 => ?_)
                  · refine lv_iload hx hb dL_law_366 (lv_at hl 1 rfl) ?_
                    refine lv_if_ne (tgt := 383) hx hb dL_law_368 (by decide) (fun c_71 => ?_) (fun c_71 => ?_)
                    · refine lv_goto (tgt := 2585) hx hb dL_law_383 (by decide) ?_
                      refine W.widen (k := 600002) (n := 7302232) (Nat.le_of_ble_eq_true rfl) (Nat.le_of_ble_eq_true rfl) ?_
                      exact law_end C0 hA hA2 hS (lv_sub hl [7, 2] rfl)
                    · exact absurd c_71 (by decide)
                  · exact absurd c_70 (by decide)
