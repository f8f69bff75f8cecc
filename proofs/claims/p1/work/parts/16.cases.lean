theorem dL_law_386 : decode cL_law 386 = .ok (.aload_n 1, 1) := by decide +kernel
theorem dL_law_387 : decode cL_law 387 = .ok (.aload_n 0, 1) := by decide +kernel
theorem dL_law_388 : decode cL_law 388 = .ok (.iload 5, 2) := by decide +kernel
theorem dL_law_390 : decode cL_law 390 = .ok (.iconst 1, 1) := by decide +kernel
theorem dL_law_391 : decode cL_law 391 = .ok (.iadd, 1) := by decide +kernel
theorem dL_law_392 : decode cL_law 392 = .ok (.iaload, 1) := by decide +kernel
theorem dL_law_393 : decode cL_law 393 = .ok (.aload_n 0, 1) := by decide +kernel
theorem dL_law_394 : decode cL_law 394 = .ok (.iload 5, 2) := by decide +kernel
theorem dL_law_396 : decode cL_law 396 = .ok (.iconst 2, 1) := by decide +kernel
theorem dL_law_397 : decode cL_law 397 = .ok (.iadd, 1) := by decide +kernel
theorem dL_law_398 : decode cL_law 398 = .ok (.iaload, 1) := by decide +kernel
theorem dL_law_399 : decode cL_law 399 = .ok (.aload_n 3, 1) := by decide +kernel
theorem dL_law_400 : decode cL_law 400 = .ok (.invokestatic 154, 3) := by decide +kernel
theorem q_806 : (Cond.methodLink "NightfallVillageLaw" 154 yL_seems) ∈ tw := tw_in (i := 806) (by decide +kernel) (by decide +kernel)
theorem q_807 : (Cond.static yL_seems) ∈ tw := tw_in (i := 807) (by decide +kernel) (by decide +kernel)
theorem dL_law_403 : decode cL_law 403 = .ok (.istore 6, 2) := by decide +kernel
theorem dL_law_405 : decode cL_law 405 = .ok (.aload_n 2, 1) := by decide +kernel
theorem dL_law_406 : decode cL_law 406 = .ok (.aload_n 0, 1) := by decide +kernel
theorem dL_law_407 : decode cL_law 407 = .ok (.iload 5, 2) := by decide +kernel
theorem dL_law_409 : decode cL_law 409 = .ok (.iconst 1, 1) := by decide +kernel
theorem dL_law_410 : decode cL_law 410 = .ok (.iadd, 1) := by decide +kernel
theorem dL_law_411 : decode cL_law 411 = .ok (.iaload, 1) := by decide +kernel
theorem dL_law_412 : decode cL_law 412 = .ok (.aload_n 0, 1) := by decide +kernel
theorem dL_law_413 : decode cL_law 413 = .ok (.iload 5, 2) := by decide +kernel
theorem dL_law_415 : decode cL_law 415 = .ok (.iconst 2, 1) := by decide +kernel
theorem dL_law_416 : decode cL_law 416 = .ok (.iadd, 1) := by decide +kernel
theorem dL_law_417 : decode cL_law 417 = .ok (.iaload, 1) := by decide +kernel
theorem dL_law_418 : decode cL_law 418 = .ok (.invokevirtual 157, 3) := by decide +kernel
theorem q_1596 : (Cond.code yX12_seems cX12_seems 4 (some .int)) ∈ tw := tw_in (i := 1596) (by decide +kernel) (by decide +kernel)
theorem q_1593 : (Cond.methodLink "NightfallVillageLaw" 157 yX12_seems) ∈ tw := tw_in (i := 1593) (by decide +kernel) (by decide +kernel)
theorem q_1594 : (Cond.instanceMethod yX12_seems) ∈ tw := tw_in (i := 1594) (by decide +kernel) (by decide +kernel)
theorem q_1595 : (Cond.selects "NightfallVillageModel" yX12_seems yX12_seems) ∈ tw := tw_in (i := 1595) (by decide +kernel) (by decide +kernel)
theorem dL_law_421 : decode cL_law 421 = .ok (.istore 7, 2) := by decide +kernel
theorem dL_law_423 : decode cL_law 423 = .ok (.aload_n 2, 1) := by decide +kernel
theorem dL_law_424 : decode cL_law 424 = .ok (.invokevirtual 151, 3) := by decide +kernel
theorem dL_law_427 : decode cL_law 427 = .ok (.iload 6, 2) := by decide +kernel
theorem dL_law_429 : decode cL_law 429 = .ok (.if_icmp .eq 5, 3) := by decide +kernel
theorem dL_law_434 : decode cL_law 434 = .ok (.iload 6, 2) := by decide +kernel
theorem dL_law_436 : decode cL_law 436 = .ok (.ifCond .ne 15, 3) := by decide +kernel
theorem dL_law_451 : decode cL_law 451 = .ok (.goto 2134, 3) := by decide +kernel
set_option maxHeartbeats 8000000 in
set_option maxRecDepth 100000 in
theorem law_case_1 {p : Program} {l : Launch} {e : Env} {s : State} {m : MethodId} {below : List Frame} {meth : Method} {c : Code} (hst : l.stackTraces = false) {tE : Nat} {adK adV : Nat → Nat} {dC : Nat → ClassId} {dI : Nat → Nat → Nat} {b : Nat} {xs : Nat → Int32} (C0 : lw_At p s m meth c b 7 xs) {A : Nat → Prop} (hA : ∀ q, s.heap.size ≤ q → A q) (hA2 : ∀ q, A q → s.heap.size ≤ q) (ham : am tE adK adV A s s.heap) {w0 : Nat} {w1 : Nat} {w2 : Nat} {w3 : Nat} {w4 : Nat} {w5 : Nat} {w6 : Nat} {w7 : Nat} {w8 : Nat} {w9 : Nat} {w10 : Nat} {w11 : Nat} {w12 : Nat} {w13 : Nat} {w14 : Nat} {w15 : Nat} {w16 : ClassId} {w17 : ClassId} {w18 : ClassId} {w19 : ClassId} {w20 : ClassId} {w21 : ClassId} {w22 : ClassId} {w23 : Nat} {w24 : Nat} {w25 : Nat} {w26 : Nat} {w27 : Nat} {w28 : Nat} {w29 : Nat} {w30 : Nat} {w31 : Nat} {w32 : Nat} {w33 : Nat} {w34 : Nat} {w35 : Nat} {w36 : Nat} {w37 : Nat} {w38 : Nat} {w39 : Nat} {w40 : Nat} {w41 : Nat} {w42 : Nat} {w43 : Nat} {w44 : Nat} {w45 : Nat} {w46 : Nat} {w47 : Nat} {w48 : Nat} {w49 : Nat} {w50 : Nat} {w51 : Nat} {w52 : Nat} {w53 : ClassId} {w54 : Nat} {w55 : ClassId} {H : Heap} {locs : List Loc} (hK : va_K (dC, dI) cls [(w16, .char), (w17, .char), (w18, .int), (w19, .boolean), (w20, .boolean), (w21, .boolean), (w22, .int), (w53, .long), (w55, .double)] s) (hP : va_P (dC, dI) cls [(w0, .inr (10, [.ref w1, .ref w2, .ref w3, .ref w4, .ref w5, .ref w6, .ref w7, .ref w8])), (w1, .inr (7, [.ref w9, .ref w10, .ref w11, .ref w12, .ref w13, .ref w14, .ref w15, .int 0])), (w9, .inl (w16, 8, .inl (fun _ => 0))), (w10, .inl (w17, 8, .inl (fun _ => 0))), (w11, .inl (w18, 8, .inl (fun _ => 0))), (w12, .inl (w19, 8, .inl (fun _ => 0))), (w13, .inl (w20, 8, .inl (fun _ => 0))), (w14, .inl (w21, 8, .inl (fun _ => 0))), (w15, .inl (w22, 8, .inl (fun _ => 0))), (w2, .inr (2, [.ref w23, .ref w24, .ref w25, .int 0, .int (-1), .int (-1)])), (w3, .inr (4, [.ref w26, .ref w27, .ref w28, .int 0, .int 0, .int 0, .int 45])), (w26, .inr (3, [.ref w1, .ref w2, .ref w29, .ref w30, .ref w31, .ref w32, .ref w33, .int 0, .int 0])), (w34, .inr (12, [.int 0, .ref w35, .ref w36, .ref w37, .int (-1), .int (-1), .int 0, .ref w38, .ref w39, .ref w40, .ref w41, .ref w42, .ref w43, .ref w44, .ref w45, .ref w46, .int 0, .int 0, .null, .int 0, .int 45, .ref w47, .ref w48, .ref w49, .ref w50, .ref w51])), (w35, .inr (14, [.int 0, .ref tE, .int 0])), (w36, .inr (14, [.int 0, .ref tE, .int 0])), (w52, .inl (w53, 1, .inr (.inl (fun _ => 0)))), (w54, .inl (w55, 1, .inr (.inr (.inr (.inl (fun _ => 0))))))] H) (hD : va_D A [(w0, .inr (10, [.ref w1, .ref w2, .ref w3, .ref w4, .ref w5, .ref w6, .ref w7, .ref w8])), (w1, .inr (7, [.ref w9, .ref w10, .ref w11, .ref w12, .ref w13, .ref w14, .ref w15, .int 0])), (w9, .inl (w16, 8, .inl (fun _ => 0))), (w10, .inl (w17, 8, .inl (fun _ => 0))), (w11, .inl (w18, 8, .inl (fun _ => 0))), (w12, .inl (w19, 8, .inl (fun _ => 0))), (w13, .inl (w20, 8, .inl (fun _ => 0))), (w14, .inl (w21, 8, .inl (fun _ => 0))), (w15, .inl (w22, 8, .inl (fun _ => 0))), (w2, .inr (2, [.ref w23, .ref w24, .ref w25, .int 0, .int (-1), .int (-1)])), (w3, .inr (4, [.ref w26, .ref w27, .ref w28, .int 0, .int 0, .int 0, .int 45])), (w26, .inr (3, [.ref w1, .ref w2, .ref w29, .ref w30, .ref w31, .ref w32, .ref w33, .int 0, .int 0])), (w34, .inr (12, [.int 0, .ref w35, .ref w36, .ref w37, .int (-1), .int (-1), .int 0, .ref w38, .ref w39, .ref w40, .ref w41, .ref w42, .ref w43, .ref w44, .ref w45, .ref w46, .int 0, .int 0, .null, .int 0, .int 45, .ref w47, .ref w48, .ref w49, .ref w50, .ref w51])), (w35, .inr (14, [.int 0, .ref tE, .int 0])), (w36, .inr (14, [.int 0, .ref tE, .int 0])), (w52, .inl (w53, 1, .inr (.inl (fun _ => 0)))), (w54, .inl (w55, 1, .inr (.inr (.inr (.inl (fun _ => 0))))))]) (hS : va_S A s.heap H locs) {ls : Array Slot} (hl : lv_has ls 9 [(5, .int 0), (4, .ref w54), (3, .ref w52), (2, .ref w34), (1, .ref w0), (0, .ref b)]) : W p l e room_1 s m #[Value.ref b] below meth c H locs 91 4902 (lw_Z below #[Value.ref b] s) (F0 m 386 ls []) := by
  obtain ⟨hx, hb, hr, hml, hown0, hts, hX, hbl, hlocks, hgv⟩ := id C0
  have hq : ∀ w ∈ tw, w.before #[Value.ref b] s = true := tw_of hts
  have hown : s.vm.findClass RL = some m.cls := hown0
  have hbA : ¬ A b := fun h => Nat.not_le.mpr hbl (hA2 b h)
  refine lv_aload_n hx hb dL_law_386 rfl (lv_at hl 4 rfl) ?_
  refine lv_aload_n hx hb dL_law_387 rfl (lv_at hl 5 rfl) ?_
  refine lv_iload hx hb dL_law_388 (lv_at hl 0 rfl) ?_
  refine lv_iconst (v := 1) hx hb dL_law_390 (by decide) ?_
  refine lv_iadd hx hb dL_law_391 ?_
  refine W.eq (congrArg (fun z : Int32 => F0 m 392 ls (.int z :: [.ref b, .ref w0])) (by decide : (0 + 1 : Int32) = 1)) ?_
  refine va_sld hx hb hX hbl hbA hS (i := 1) (by unfold vp_in; decide) dL_law_392 ?_
  refine lv_aload_n hx hb dL_law_393 rfl (lv_at hl 5 rfl) ?_
  refine lv_iload hx hb dL_law_394 (lv_at hl 0 rfl) ?_
  refine lv_iconst (v := 2) hx hb dL_law_396 (by decide) ?_
  refine lv_iadd hx hb dL_law_397 ?_
  refine W.eq (congrArg (fun z : Int32 => F0 m 398 ls (.int z :: [.ref b, .int (xs (1 : Int32).toNatClampNeg), .ref w0])) (by decide : (0 + 2 : Int32) = 2)) ?_
  refine va_sld hx hb hX hbl hbA hS (i := 2) (by unfold vp_in; decide) dL_law_398 ?_
  refine lv_aload_n hx hb dL_law_399 rfl (lv_at hl 2 rfl) ?_
  have hPc := hP.sub (ws' := [(w0, .inr (10, [.ref w1, .ref w2, .ref w3, .ref w4, .ref w5, .ref w6, .ref w7, .ref w8])), (w1, .inr (7, [.ref w9, .ref w10, .ref w11, .ref w12, .ref w13, .ref w14, .ref w15, .int 0])), (w2, .inr (2, [.ref w23, .ref w24, .ref w25, .int 0, .int (-1), .int (-1)])), (w3, .inr (4, [.ref w26, .ref w27, .ref w28, .int 0, .int 0, .int 0, .int 45])), (w26, .inr (3, [.ref w1, .ref w2, .ref w29, .ref w30, .ref w31, .ref w32, .ref w33, .int 0, .int 0]))]) [0, 1, 9, 10, 11] rfl
  have hKc := hK.sub (tys' := []) [] rfl
  refine vx_calli (vx_runSX (As := [.ref w0, .int (xs (1 : Int32).toNatClampNeg), .int (xs (2 : Int32).toNatClampNeg), .ref w52]) (rest := []) ⟨hx, hb, hml, hown, hq⟩ (c_L_seems l hst tE adK adV dC dI w0 w1 w2 w3 w4 w5 w6 w7 w8 w9 w10 w11 w12 w13 w14 w15 w23 w24 w25 w26 w27 w28 w29 w30 w31 w32 w33 w52 (xs (1 : Int32).toNatClampNeg) (xs (2 : Int32).toNatClampNeg) H.size) (tcSW 4 hq q_808 q_0 q_806 q_807 rfl rfl (by decide +kernel) ⟨Nat.le_of_ble_eq_true rfl, Nat.le_of_ble_eq_true rfl⟩) (preR.S (preR.of hPc hKc ham hS hA)) rfl rfl hl.1 rfl (lv_room (Nat.le_of_ble_eq_true rfl)) dL_law_400 ⟨Nat.le_of_ble_eq_true rfl, Nat.le_of_ble_eq_true rfl⟩) hS (fun q _ h => hA q (Nat.le_trans hS.1 h)) (fun q h => hA q (Nat.le_trans hS.1 h)) (fun q _ h => hA q (Nat.le_trans hS.1 h)) (fun E ce q9 u t H1 locs ht hvm hpx hB hz1 hk1 hS hce hcv hcl => ?_) (fun r_1 u t H1 locs ht hvm hw hB hz1 hk1 hS => ?_)
  · exact (hB : False).elim
  · have hP : va_P (dC, dI) cls [(w0, .inr (10, [.ref w1, .ref w2, .ref w3, .ref w4, .ref w5, .ref w6, .ref w7, .ref w8])), (w1, .inr (7, [.ref w9, .ref w10, .ref w11, .ref w12, .ref w13, .ref w14, .ref w15, .int 0])), (w9, .inl (w16, 8, .inl (fun _ => 0))), (w10, .inl (w17, 8, .inl (fun _ => 0))), (w11, .inl (w18, 8, .inl (fun _ => 0))), (w12, .inl (w19, 8, .inl (fun _ => 0))), (w13, .inl (w20, 8, .inl (fun _ => 0))), (w14, .inl (w21, 8, .inl (fun _ => 0))), (w15, .inl (w22, 8, .inl (fun _ => 0))), (w2, .inr (2, [.ref w23, .ref w24, .ref w25, .int 0, .int (-1), .int (-1)])), (w3, .inr (4, [.ref w26, .ref w27, .ref w28, .int 0, .int 0, .int 0, .int 45])), (w26, .inr (3, [.ref w1, .ref w2, .ref w29, .ref w30, .ref w31, .ref w32, .ref w33, .int 0, .int 0])), (w34, .inr (12, [.int 0, .ref w35, .ref w36, .ref w37, .int (-1), .int (-1), .int 0, .ref w38, .ref w39, .ref w40, .ref w41, .ref w42, .ref w43, .ref w44, .ref w45, .ref w46, .int 0, .int 0, .null, .int 0, .int 45, .ref w47, .ref w48, .ref w49, .ref w50, .ref w51])), (w35, .inr (14, [.int 0, .ref tE, .int 0])), (w36, .inr (14, [.int 0, .ref tE, .int 0])), (w52, .inl (w53, 1, .inr (.inl (fun _ => 0)))), (w54, .inl (w55, 1, .inr (.inr (.inr (.inl (fun _ => 0))))))] H1 := ro_keep hP hk1
    generalize H1 = H at hP hS ⊢
    refine W.widen (k := 92) (n := 4908) (Nat.le_of_ble_eq_true rfl) (Nat.le_of_ble_eq_true rfl) ?_
    have hw : r_1 = 1 := hw
    subst hw
    refine lv_istore (lv' := [(6, .int 1), (5, .int 0), (4, .ref w54), (3, .ref w52), (2, .ref w34), (1, .ref w0), (0, .ref b)]) hx hb dL_law_403 hl (by decide) rfl (fun ls hl => ?_)
    refine lv_aload_n hx hb dL_law_405 rfl (lv_at hl 4 rfl) ?_
    refine lv_aload_n hx hb dL_law_406 rfl (lv_at hl 6 rfl) ?_
    refine lv_iload hx hb dL_law_407 (lv_at hl 1 rfl) ?_
    refine lv_iconst (v := 1) hx hb dL_law_409 (by decide) ?_
    refine lv_iadd hx hb dL_law_410 ?_
    refine W.eq (congrArg (fun z : Int32 => F0 m 411 ls (.int z :: [.ref b, .ref w34])) (by decide : (0 + 1 : Int32) = 1)) ?_
    refine va_sld hx hb hX hbl hbA hS (i := 1) (by unfold vp_in; decide) dL_law_411 ?_
    refine lv_aload_n hx hb dL_law_412 rfl (lv_at hl 6 rfl) ?_
    refine lv_iload hx hb dL_law_413 (lv_at hl 1 rfl) ?_
    refine lv_iconst (v := 2) hx hb dL_law_415 (by decide) ?_
    refine lv_iadd hx hb dL_law_416 ?_
    refine W.eq (congrArg (fun z : Int32 => F0 m 417 ls (.int z :: [.ref b, .int (xs (1 : Int32).toNatClampNeg), .ref w34])) (by decide : (0 + 2 : Int32) = 2)) ?_
    refine va_sld hx hb hX hbl hbA hS (i := 2) (by unfold vp_in; decide) dL_law_417 ?_
    have hPc := hP.sub (ws' := [(w34, .inr (12, [.int 0, .ref w35, .ref w36, .ref w37, .int (-1), .int (-1), .int 0, .ref w38, .ref w39, .ref w40, .ref w41, .ref w42, .ref w43, .ref w44, .ref w45, .ref w46, .int 0, .int 0, .null, .int 0, .int 45, .ref w47, .ref w48, .ref w49, .ref w50, .ref w51])), (w35, .inr (14, [.int 0, .ref tE, .int 0])), (w36, .inr (14, [.int 0, .ref tE, .int 0]))]) [12, 13, 14] rfl
    have hKc := hK.sub (tys' := []) [] rfl
    have hDc := hD.sub (ws' := [(w34, .inr (12, [.int 0, .ref w35, .ref w36, .ref w37, .int (-1), .int (-1), .int 0, .ref w38, .ref w39, .ref w40, .ref w41, .ref w42, .ref w43, .ref w44, .ref w45, .ref w46, .int 0, .int 0, .null, .int 0, .int 45, .ref w47, .ref w48, .ref w49, .ref w50, .ref w51])), (w35, .inr (14, [.int 0, .ref tE, .int 0])), (w36, .inr (14, [.int 0, .ref tE, .int 0]))]) [12, 13, 14] (by decide) rfl
    have hFc := va_free (wc := [(w34, .inr (12, [.int 0, .ref w35, .ref w36, .ref w37, .int (-1), .int (-1), .int 0, .ref w38, .ref w39, .ref w40, .ref w41, .ref w42, .ref w43, .ref w44, .ref w45, .ref w46, .int 0, .int 0, .null, .int 0, .int 45, .ref w47, .ref w48, .ref w49, .ref w50, .ref w51])), (w35, .inr (14, [.int 0, .ref tE, .int 0])), (w36, .inr (14, [.int 0, .ref tE, .int 0]))]) hD hS hA [12, 13, 14] rfl
    refine va_calli (va_runV (As := [.int (xs (1 : Int32).toNatClampNeg), .int (xs (2 : Int32).toNatClampNeg)]) (rest := []) ⟨hx, hb, hml, hown, hq⟩ (c_M_seems l hst tE adK adV dC dI w34 w35 w36 w37 w38 w39 w40 w41 w42 w43 w44 w45 w46 w47 w48 w49 w50 w51 0 (xs (1 : Int32).toNatClampNeg) (xs (2 : Int32).toNatClampNeg) H.size) (tcV 2 hq q_1596 q_12 q_1593 q_1594 q_1595 rfl rfl (by decide +kernel) ⟨Nat.le_of_ble_eq_true rfl, Nat.le_of_ble_eq_true rfl⟩) (pre.V (va_recv hK hP (ci := 12) (q0 := 12) rfl rfl) (pre.of hPc hDc hKc ham hS hFc)) rfl rfl hl.1 rfl (lv_room (Nat.le_of_ble_eq_true rfl)) dL_law_418 ⟨Nat.le_of_ble_eq_true rfl, Nat.le_of_ble_eq_true rfl⟩) hS (fun q _ h => hFc q h) hFc (fun r_2 u t H1 locs ht hvm hw hB hz1 hk1 hS => ?_)
    obtain ⟨hP1, hK1, hD1⟩ := hB
    rw [ht] at hP1
    have hK1 := va_K.moved hvm.symm hK1
    obtain ⟨hP, hD⟩ := va_join (wr := [(w0, .inr (10, [.ref w1, .ref w2, .ref w3, .ref w4, .ref w5, .ref w6, .ref w7, .ref w8])), (w1, .inr (7, [.ref w9, .ref w10, .ref w11, .ref w12, .ref w13, .ref w14, .ref w15, .int 0])), (w9, .inl (w16, 8, .inl (fun _ => 0))), (w10, .inl (w17, 8, .inl (fun _ => 0))), (w11, .inl (w18, 8, .inl (fun _ => 0))), (w12, .inl (w19, 8, .inl (fun _ => 0))), (w13, .inl (w20, 8, .inl (fun _ => 0))), (w14, .inl (w21, 8, .inl (fun _ => 0))), (w15, .inl (w22, 8, .inl (fun _ => 0))), (w2, .inr (2, [.ref w23, .ref w24, .ref w25, .int 0, .int (-1), .int (-1)])), (w3, .inr (4, [.ref w26, .ref w27, .ref w28, .int 0, .int 0, .int 0, .int 45])), (w26, .inr (3, [.ref w1, .ref w2, .ref w29, .ref w30, .ref w31, .ref w32, .ref w33, .int 0, .int 0])), (w52, .inl (w53, 1, .inr (.inl (fun _ => 0)))), (w54, .inl (w55, 1, .inr (.inr (.inr (.inl (fun _ => 0))))))]) (w1 := [(w34, .inr (12, [.int 1, .ref w35, .ref w36, .ref w37, .int (-1), .int (-1), .int 0, .ref w38, .ref w39, .ref w40, .ref w41, .ref w42, .ref w43, .ref w44, .ref w45, .ref w46, .int 0, .int 0, .null, .int 0, .int 45, .ref w47, .ref w48, .ref w49, .ref w50, .ref w51]))]) (wc := [(w34, .inr (12, [.int 0, .ref w35, .ref w36, .ref w37, .int (-1), .int (-1), .int 0, .ref w38, .ref w39, .ref w40, .ref w41, .ref w42, .ref w43, .ref w44, .ref w45, .ref w46, .int 0, .int 0, .null, .int 0, .int 45, .ref w47, .ref w48, .ref w49, .ref w50, .ref w51])), (w35, .inr (14, [.int 0, .ref tE, .int 0])), (w36, .inr (14, [.int 0, .ref tE, .int 0]))]) hP hD [12, 13, 14] [0, 1, 2, 3, 4, 5, 6, 7, 8, 9, 10, 11, 15, 16] rfl rfl (by decide) (by decide) hk1 hFc hP1 hD1
    have hK := (hK.sub (tys' := [(w16, .char), (w17, .char), (w18, .int), (w19, .boolean), (w20, .boolean), (w21, .boolean), (w22, .int), (w53, .long), (w55, .double)]) [0, 1, 2, 3, 4, 5, 6, 7, 8] rfl).app hK1
    generalize H1 = H at hP hS ⊢
    have hP : va_P (dC, dI) cls [(w0, .inr (10, [.ref w1, .ref w2, .ref w3, .ref w4, .ref w5, .ref w6, .ref w7, .ref w8])), (w1, .inr (7, [.ref w9, .ref w10, .ref w11, .ref w12, .ref w13, .ref w14, .ref w15, .int 0])), (w9, .inl (w16, 8, .inl (fun _ => 0))), (w10, .inl (w17, 8, .inl (fun _ => 0))), (w11, .inl (w18, 8, .inl (fun _ => 0))), (w12, .inl (w19, 8, .inl (fun _ => 0))), (w13, .inl (w20, 8, .inl (fun _ => 0))), (w14, .inl (w21, 8, .inl (fun _ => 0))), (w15, .inl (w22, 8, .inl (fun _ => 0))), (w2, .inr (2, [.ref w23, .ref w24, .ref w25, .int 0, .int (-1), .int (-1)])), (w3, .inr (4, [.ref w26, .ref w27, .ref w28, .int 0, .int 0, .int 0, .int 45])), (w26, .inr (3, [.ref w1, .ref w2, .ref w29, .ref w30, .ref w31, .ref w32, .ref w33, .int 0, .int 0])), (w52, .inl (w53, 1, .inr (.inl (fun _ => 0)))), (w54, .inl (w55, 1, .inr (.inr (.inr (.inl (fun _ => 0)))))), (w34, .inr (12, [.int 1, .ref w35, .ref w36, .ref w37, .int (-1), .int (-1), .int 0, .ref w38, .ref w39, .ref w40, .ref w41, .ref w42, .ref w43, .ref w44, .ref w45, .ref w46, .int 0, .int 0, .null, .int 0, .int 45, .ref w47, .ref w48, .ref w49, .ref w50, .ref w51]))] H := hP
    have hD : va_D A [(w0, .inr (10, [.ref w1, .ref w2, .ref w3, .ref w4, .ref w5, .ref w6, .ref w7, .ref w8])), (w1, .inr (7, [.ref w9, .ref w10, .ref w11, .ref w12, .ref w13, .ref w14, .ref w15, .int 0])), (w9, .inl (w16, 8, .inl (fun _ => 0))), (w10, .inl (w17, 8, .inl (fun _ => 0))), (w11, .inl (w18, 8, .inl (fun _ => 0))), (w12, .inl (w19, 8, .inl (fun _ => 0))), (w13, .inl (w20, 8, .inl (fun _ => 0))), (w14, .inl (w21, 8, .inl (fun _ => 0))), (w15, .inl (w22, 8, .inl (fun _ => 0))), (w2, .inr (2, [.ref w23, .ref w24, .ref w25, .int 0, .int (-1), .int (-1)])), (w3, .inr (4, [.ref w26, .ref w27, .ref w28, .int 0, .int 0, .int 0, .int 45])), (w26, .inr (3, [.ref w1, .ref w2, .ref w29, .ref w30, .ref w31, .ref w32, .ref w33, .int 0, .int 0])), (w52, .inl (w53, 1, .inr (.inl (fun _ => 0)))), (w54, .inl (w55, 1, .inr (.inr (.inr (.inl (fun _ => 0)))))), (w34, .inr (12, [.int 1, .ref w35, .ref w36, .ref w37, .int (-1), .int (-1), .int 0, .ref w38, .ref w39, .ref w40, .ref w41, .ref w42, .ref w43, .ref w44, .ref w45, .ref w46, .int 0, .int 0, .null, .int 0, .int 45, .ref w47, .ref w48, .ref w49, .ref w50, .ref w51]))] := hD
    have hK : va_K (dC, dI) cls [(w16, .char), (w17, .char), (w18, .int), (w19, .boolean), (w20, .boolean), (w21, .boolean), (w22, .int), (w53, .long), (w55, .double)] s := hK
    refine W.widen (k := 92) (n := 4908) (Nat.le_of_ble_eq_true rfl) (Nat.le_of_ble_eq_true rfl) ?_
    refine lv_istore (lv' := [(7, .int r_2), (6, .int 1), (5, .int 0), (4, .ref w54), (3, .ref w52), (2, .ref w34), (1, .ref w0), (0, .ref b)]) hx hb dL_law_421 hl (by decide) rfl (fun ls hl => ?_)
    refine lv_aload_n hx hb dL_law_423 rfl (lv_at hl 5 rfl) ?_
    have hPc := hP.sub (ws' := [(w34, .inr (12, [.int 1, .ref w35, .ref w36, .ref w37, .int (-1), .int (-1), .int 0, .ref w38, .ref w39, .ref w40, .ref w41, .ref w42, .ref w43, .ref w44, .ref w45, .ref w46, .int 0, .int 0, .null, .int 0, .int 45, .ref w47, .ref w48, .ref w49, .ref w50, .ref w51]))]) [14] rfl
    have hKc := hK.sub (tys' := []) [] rfl
    refine va_calli (va_runV (As := []) (rest := []) ⟨hx, hb, hml, hown, hq⟩ (c_thrown l hst tE adK adV dC dI w34 w35 w36 w37 w38 w39 w40 w41 w42 w43 w44 w45 w46 w47 w48 w49 w50 w51 1 H.size) (tcV 0 hq q_1264 q_12 q_1261 q_1262 q_1263 rfl rfl (by decide +kernel) ⟨Nat.le_of_ble_eq_true rfl, Nat.le_of_ble_eq_true rfl⟩) (preR.V (va_recv hK hP (ci := 12) (q0 := 14) rfl rfl) (preR.of hPc hKc ham hS hA)) rfl rfl hl.1 rfl (lv_room (Nat.le_of_ble_eq_true rfl)) dL_law_424 ⟨Nat.le_of_ble_eq_true rfl, Nat.le_of_ble_eq_true rfl⟩) hS (fun q _ h => hA q (Nat.le_trans hS.1 h)) (fun q h => hA q (Nat.le_trans hS.1 h)) (fun r_3 u t H1 locs ht hvm hw hB hz1 hk1 hS => ?_)
    have hP : va_P (dC, dI) cls [(w0, .inr (10, [.ref w1, .ref w2, .ref w3, .ref w4, .ref w5, .ref w6, .ref w7, .ref w8])), (w1, .inr (7, [.ref w9, .ref w10, .ref w11, .ref w12, .ref w13, .ref w14, .ref w15, .int 0])), (w9, .inl (w16, 8, .inl (fun _ => 0))), (w10, .inl (w17, 8, .inl (fun _ => 0))), (w11, .inl (w18, 8, .inl (fun _ => 0))), (w12, .inl (w19, 8, .inl (fun _ => 0))), (w13, .inl (w20, 8, .inl (fun _ => 0))), (w14, .inl (w21, 8, .inl (fun _ => 0))), (w15, .inl (w22, 8, .inl (fun _ => 0))), (w2, .inr (2, [.ref w23, .ref w24, .ref w25, .int 0, .int (-1), .int (-1)])), (w3, .inr (4, [.ref w26, .ref w27, .ref w28, .int 0, .int 0, .int 0, .int 45])), (w26, .inr (3, [.ref w1, .ref w2, .ref w29, .ref w30, .ref w31, .ref w32, .ref w33, .int 0, .int 0])), (w52, .inl (w53, 1, .inr (.inl (fun _ => 0)))), (w54, .inl (w55, 1, .inr (.inr (.inr (.inl (fun _ => 0)))))), (w34, .inr (12, [.int 1, .ref w35, .ref w36, .ref w37, .int (-1), .int (-1), .int 0, .ref w38, .ref w39, .ref w40, .ref w41, .ref w42, .ref w43, .ref w44, .ref w45, .ref w46, .int 0, .int 0, .null, .int 0, .int 45, .ref w47, .ref w48, .ref w49, .ref w50, .ref w51]))] H1 := ro_keep hP hk1
    generalize H1 = H at hP hS ⊢
    refine W.widen (k := 92) (n := 4908) (Nat.le_of_ble_eq_true rfl) (Nat.le_of_ble_eq_true rfl) ?_
    have hw : r_3 = 1 := hw
    subst hw
    refine lv_iload hx hb dL_law_427 (lv_at hl 1 rfl) ?_
    refine lv_icmp_eq (tgt := 434) hx hb dL_law_429 (by decide) (fun c_4 => ?_) (fun c_4 => ?_)
    · refine lv_iload hx hb dL_law_434 (lv_at hl 1 rfl) ?_
      refine lv_if_ne (tgt := 451) hx hb dL_law_436 (by decide) (fun c_5 => ?_) (fun c_5 => ?_)
      · refine lv_goto (tgt := 2585) hx hb dL_law_451 (by decide) ?_
        refine W.widen (k := 600002) (n := 7302232) (Nat.le_of_ble_eq_true rfl) (Nat.le_of_ble_eq_true rfl) ?_
        exact law_end C0 hA hA2 hS (lv_sub hl [7, 2] rfl)
      · exact absurd c_5 (by decide)
    · exact absurd c_4 (by decide)
theorem dL_law_454 : decode cL_law 454 = .ok (.aload_n 1, 1) := by decide +kernel
theorem dL_law_455 : decode cL_law 455 = .ok (.aload_n 0, 1) := by decide +kernel
theorem dL_law_456 : decode cL_law 456 = .ok (.iload 5, 2) := by decide +kernel
theorem dL_law_458 : decode cL_law 458 = .ok (.iconst 1, 1) := by decide +kernel
theorem dL_law_459 : decode cL_law 459 = .ok (.iadd, 1) := by decide +kernel
theorem dL_law_460 : decode cL_law 460 = .ok (.iaload, 1) := by decide +kernel
theorem dL_law_461 : decode cL_law 461 = .ok (.aload_n 3, 1) := by decide +kernel
theorem dL_law_462 : decode cL_law 462 = .ok (.invokestatic 158, 3) := by decide +kernel
theorem q_839 : (Cond.methodLink "NightfallVillageLaw" 158 yL_seat) ∈ tw := tw_in (i := 839) (by decide +kernel) (by decide +kernel)
theorem q_840 : (Cond.static yL_seat) ∈ tw := tw_in (i := 840) (by decide +kernel) (by decide +kernel)
theorem dL_law_465 : decode cL_law 465 = .ok (.istore 6, 2) := by decide +kernel
theorem dL_law_467 : decode cL_law 467 = .ok (.aload_n 2, 1) := by decide +kernel
theorem dL_law_468 : decode cL_law 468 = .ok (.aload_n 0, 1) := by decide +kernel
theorem dL_law_469 : decode cL_law 469 = .ok (.iload 5, 2) := by decide +kernel
theorem dL_law_471 : decode cL_law 471 = .ok (.iconst 1, 1) := by decide +kernel
theorem dL_law_472 : decode cL_law 472 = .ok (.iadd, 1) := by decide +kernel
theorem dL_law_473 : decode cL_law 473 = .ok (.iaload, 1) := by decide +kernel
theorem dL_law_474 : decode cL_law 474 = .ok (.invokevirtual 161, 3) := by decide +kernel
theorem q_1622 : (Cond.code yX12_seat cX12_seat 2 (some .int)) ∈ tw := tw_in (i := 1622) (by decide +kernel) (by decide +kernel)
theorem q_1619 : (Cond.methodLink "NightfallVillageLaw" 161 yX12_seat) ∈ tw := tw_in (i := 1619) (by decide +kernel) (by decide +kernel)
theorem q_1620 : (Cond.instanceMethod yX12_seat) ∈ tw := tw_in (i := 1620) (by decide +kernel) (by decide +kernel)
theorem q_1621 : (Cond.selects "NightfallVillageModel" yX12_seat yX12_seat) ∈ tw := tw_in (i := 1621) (by decide +kernel) (by decide +kernel)
theorem dL_law_477 : decode cL_law 477 = .ok (.istore 7, 2) := by decide +kernel
theorem dL_law_479 : decode cL_law 479 = .ok (.aload_n 2, 1) := by decide +kernel
theorem dL_law_480 : decode cL_law 480 = .ok (.invokevirtual 151, 3) := by decide +kernel
theorem dL_law_483 : decode cL_law 483 = .ok (.iload 6, 2) := by decide +kernel
theorem dL_law_485 : decode cL_law 485 = .ok (.if_icmp .eq 5, 3) := by decide +kernel
theorem dL_law_490 : decode cL_law 490 = .ok (.iload 6, 2) := by decide +kernel
theorem dL_law_492 : decode cL_law 492 = .ok (.ifCond .ne 15, 3) := by decide +kernel
theorem dL_law_507 : decode cL_law 507 = .ok (.goto 2078, 3) := by decide +kernel
set_option maxHeartbeats 8000000 in
set_option maxRecDepth 100000 in
theorem law_case_2 {p : Program} {l : Launch} {e : Env} {s : State} {m : MethodId} {below : List Frame} {meth : Method} {c : Code} (hst : l.stackTraces = false) {tE : Nat} {adK adV : Nat → Nat} {dC : Nat → ClassId} {dI : Nat → Nat → Nat} {b : Nat} {xs : Nat → Int32} (C0 : lw_At p s m meth c b 7 xs) {A : Nat → Prop} (hA : ∀ q, s.heap.size ≤ q → A q) (hA2 : ∀ q, A q → s.heap.size ≤ q) (ham : am tE adK adV A s s.heap) {w0 : Nat} {w1 : Nat} {w2 : Nat} {w3 : Nat} {w4 : Nat} {w5 : Nat} {w6 : Nat} {w7 : Nat} {w8 : Nat} {w9 : Nat} {w10 : Nat} {w11 : Nat} {w12 : Nat} {w13 : Nat} {w14 : Nat} {w15 : Nat} {w16 : ClassId} {w17 : ClassId} {w18 : ClassId} {w19 : ClassId} {w20 : ClassId} {w21 : ClassId} {w22 : ClassId} {w23 : Nat} {w24 : Nat} {w25 : Nat} {w26 : Nat} {w27 : Nat} {w28 : Nat} {w29 : Nat} {w30 : Nat} {w31 : Nat} {w32 : Nat} {w33 : Nat} {w34 : Nat} {w35 : Nat} {w36 : Nat} {w37 : Nat} {w38 : Nat} {w39 : Nat} {w40 : Nat} {w41 : Nat} {w42 : Nat} {w43 : Nat} {w44 : Nat} {w45 : Nat} {w46 : Nat} {w47 : Nat} {w48 : Nat} {w49 : Nat} {w50 : Nat} {w51 : Nat} {w52 : Nat} {w53 : ClassId} {w54 : Nat} {w55 : ClassId} {H : Heap} {locs : List Loc} (hK : va_K (dC, dI) cls [(w16, .char), (w17, .char), (w18, .int), (w19, .boolean), (w20, .boolean), (w21, .boolean), (w22, .int), (w53, .long), (w55, .double)] s) (hP : va_P (dC, dI) cls [(w0, .inr (10, [.ref w1, .ref w2, .ref w3, .ref w4, .ref w5, .ref w6, .ref w7, .ref w8])), (w1, .inr (7, [.ref w9, .ref w10, .ref w11, .ref w12, .ref w13, .ref w14, .ref w15, .int 0])), (w9, .inl (w16, 8, .inl (fun _ => 0))), (w10, .inl (w17, 8, .inl (fun _ => 0))), (w11, .inl (w18, 8, .inl (fun _ => 0))), (w12, .inl (w19, 8, .inl (fun _ => 0))), (w13, .inl (w20, 8, .inl (fun _ => 0))), (w14, .inl (w21, 8, .inl (fun _ => 0))), (w15, .inl (w22, 8, .inl (fun _ => 0))), (w2, .inr (2, [.ref w23, .ref w24, .ref w25, .int 0, .int (-1), .int (-1)])), (w3, .inr (4, [.ref w26, .ref w27, .ref w28, .int 0, .int 0, .int 0, .int 45])), (w26, .inr (3, [.ref w1, .ref w2, .ref w29, .ref w30, .ref w31, .ref w32, .ref w33, .int 0, .int 0])), (w34, .inr (12, [.int 0, .ref w35, .ref w36, .ref w37, .int (-1), .int (-1), .int 0, .ref w38, .ref w39, .ref w40, .ref w41, .ref w42, .ref w43, .ref w44, .ref w45, .ref w46, .int 0, .int 0, .null, .int 0, .int 45, .ref w47, .ref w48, .ref w49, .ref w50, .ref w51])), (w35, .inr (14, [.int 0, .ref tE, .int 0])), (w36, .inr (14, [.int 0, .ref tE, .int 0])), (w52, .inl (w53, 1, .inr (.inl (fun _ => 0)))), (w54, .inl (w55, 1, .inr (.inr (.inr (.inl (fun _ => 0))))))] H) (hD : va_D A [(w0, .inr (10, [.ref w1, .ref w2, .ref w3, .ref w4, .ref w5, .ref w6, .ref w7, .ref w8])), (w1, .inr (7, [.ref w9, .ref w10, .ref w11, .ref w12, .ref w13, .ref w14, .ref w15, .int 0])), (w9, .inl (w16, 8, .inl (fun _ => 0))), (w10, .inl (w17, 8, .inl (fun _ => 0))), (w11, .inl (w18, 8, .inl (fun _ => 0))), (w12, .inl (w19, 8, .inl (fun _ => 0))), (w13, .inl (w20, 8, .inl (fun _ => 0))), (w14, .inl (w21, 8, .inl (fun _ => 0))), (w15, .inl (w22, 8, .inl (fun _ => 0))), (w2, .inr (2, [.ref w23, .ref w24, .ref w25, .int 0, .int (-1), .int (-1)])), (w3, .inr (4, [.ref w26, .ref w27, .ref w28, .int 0, .int 0, .int 0, .int 45])), (w26, .inr (3, [.ref w1, .ref w2, .ref w29, .ref w30, .ref w31, .ref w32, .ref w33, .int 0, .int 0])), (w34, .inr (12, [.int 0, .ref w35, .ref w36, .ref w37, .int (-1), .int (-1), .int 0, .ref w38, .ref w39, .ref w40, .ref w41, .ref w42, .ref w43, .ref w44, .ref w45, .ref w46, .int 0, .int 0, .null, .int 0, .int 45, .ref w47, .ref w48, .ref w49, .ref w50, .ref w51])), (w35, .inr (14, [.int 0, .ref tE, .int 0])), (w36, .inr (14, [.int 0, .ref tE, .int 0])), (w52, .inl (w53, 1, .inr (.inl (fun _ => 0)))), (w54, .inl (w55, 1, .inr (.inr (.inr (.inl (fun _ => 0))))))]) (hS : va_S A s.heap H locs) {ls : Array Slot} (hl : lv_has ls 9 [(5, .int 0), (4, .ref w54), (3, .ref w52), (2, .ref w34), (1, .ref w0), (0, .ref b)]) : W p l e room_1 s m #[Value.ref b] below meth c H locs 91 4902 (lw_Z below #[Value.ref b] s) (F0 m 454 ls []) := by
  obtain ⟨hx, hb, hr, hml, hown0, hts, hX, hbl, hlocks, hgv⟩ := id C0
  have hq : ∀ w ∈ tw, w.before #[Value.ref b] s = true := tw_of hts
  have hown : s.vm.findClass RL = some m.cls := hown0
  have hbA : ¬ A b := fun h => Nat.not_le.mpr hbl (hA2 b h)
  refine lv_aload_n hx hb dL_law_454 rfl (lv_at hl 4 rfl) ?_
  refine lv_aload_n hx hb dL_law_455 rfl (lv_at hl 5 rfl) ?_
  refine lv_iload hx hb dL_law_456 (lv_at hl 0 rfl) ?_
  refine lv_iconst (v := 1) hx hb dL_law_458 (by decide) ?_
  refine lv_iadd hx hb dL_law_459 ?_
  refine W.eq (congrArg (fun z : Int32 => F0 m 460 ls (.int z :: [.ref b, .ref w0])) (by decide : (0 + 1 : Int32) = 1)) ?_
  refine va_sld hx hb hX hbl hbA hS (i := 1) (by unfold vp_in; decide) dL_law_460 ?_
  refine lv_aload_n hx hb dL_law_461 rfl (lv_at hl 2 rfl) ?_
  have hPc := hP.sub (ws' := [(w0, .inr (10, [.ref w1, .ref w2, .ref w3, .ref w4, .ref w5, .ref w6, .ref w7, .ref w8])), (w1, .inr (7, [.ref w9, .ref w10, .ref w11, .ref w12, .ref w13, .ref w14, .ref w15, .int 0])), (w2, .inr (2, [.ref w23, .ref w24, .ref w25, .int 0, .int (-1), .int (-1)])), (w3, .inr (4, [.ref w26, .ref w27, .ref w28, .int 0, .int 0, .int 0, .int 45])), (w26, .inr (3, [.ref w1, .ref w2, .ref w29, .ref w30, .ref w31, .ref w32, .ref w33, .int 0, .int 0]))]) [0, 1, 9, 10, 11] rfl
  have hKc := hK.sub (tys' := []) [] rfl
  refine vx_calli (vx_runSX (As := [.ref w0, .int (xs (1 : Int32).toNatClampNeg), .ref w52]) (rest := []) ⟨hx, hb, hml, hown, hq⟩ (c_L_seat l hst tE adK adV dC dI w0 w1 w2 w3 w4 w5 w6 w7 w8 w9 w10 w11 w12 w13 w14 w15 w23 w24 w25 w26 w27 w28 w29 w30 w31 w32 w33 w52 (xs (1 : Int32).toNatClampNeg) H.size) (tcSW 3 hq q_841 q_0 q_839 q_840 rfl rfl (by decide +kernel) ⟨Nat.le_of_ble_eq_true rfl, Nat.le_of_ble_eq_true rfl⟩) (preR.S (preR.of hPc hKc ham hS hA)) rfl rfl hl.1 rfl (lv_room (Nat.le_of_ble_eq_true rfl)) dL_law_462 ⟨Nat.le_of_ble_eq_true rfl, Nat.le_of_ble_eq_true rfl⟩) hS (fun q _ h => hA q (Nat.le_trans hS.1 h)) (fun q h => hA q (Nat.le_trans hS.1 h)) (fun q _ h => hA q (Nat.le_trans hS.1 h)) (fun E ce q9 u t H1 locs ht hvm hpx hB hz1 hk1 hS hce hcv hcl => ?_) (fun r_1 u t H1 locs ht hvm hw hB hz1 hk1 hS => ?_)
  · exact (hB : False).elim
  · have hP : va_P (dC, dI) cls [(w0, .inr (10, [.ref w1, .ref w2, .ref w3, .ref w4, .ref w5, .ref w6, .ref w7, .ref w8])), (w1, .inr (7, [.ref w9, .ref w10, .ref w11, .ref w12, .ref w13, .ref w14, .ref w15, .int 0])), (w9, .inl (w16, 8, .inl (fun _ => 0))), (w10, .inl (w17, 8, .inl (fun _ => 0))), (w11, .inl (w18, 8, .inl (fun _ => 0))), (w12, .inl (w19, 8, .inl (fun _ => 0))), (w13, .inl (w20, 8, .inl (fun _ => 0))), (w14, .inl (w21, 8, .inl (fun _ => 0))), (w15, .inl (w22, 8, .inl (fun _ => 0))), (w2, .inr (2, [.ref w23, .ref w24, .ref w25, .int 0, .int (-1), .int (-1)])), (w3, .inr (4, [.ref w26, .ref w27, .ref w28, .int 0, .int 0, .int 0, .int 45])), (w26, .inr (3, [.ref w1, .ref w2, .ref w29, .ref w30, .ref w31, .ref w32, .ref w33, .int 0, .int 0])), (w34, .inr (12, [.int 0, .ref w35, .ref w36, .ref w37, .int (-1), .int (-1), .int 0, .ref w38, .ref w39, .ref w40, .ref w41, .ref w42, .ref w43, .ref w44, .ref w45, .ref w46, .int 0, .int 0, .null, .int 0, .int 45, .ref w47, .ref w48, .ref w49, .ref w50, .ref w51])), (w35, .inr (14, [.int 0, .ref tE, .int 0])), (w36, .inr (14, [.int 0, .ref tE, .int 0])), (w52, .inl (w53, 1, .inr (.inl (fun _ => 0)))), (w54, .inl (w55, 1, .inr (.inr (.inr (.inl (fun _ => 0))))))] H1 := ro_keep hP hk1
    generalize H1 = H at hP hS ⊢
    refine W.widen (k := 92) (n := 4908) (Nat.le_of_ble_eq_true rfl) (Nat.le_of_ble_eq_true rfl) ?_
    have hw : r_1 = 1 := hw
    subst hw
    refine lv_istore (lv' := [(6, .int 1), (5, .int 0), (4, .ref w54), (3, .ref w52), (2, .ref w34), (1, .ref w0), (0, .ref b)]) hx hb dL_law_465 hl (by decide) rfl (fun ls hl => ?_)
    refine lv_aload_n hx hb dL_law_467 rfl (lv_at hl 4 rfl) ?_
    refine lv_aload_n hx hb dL_law_468 rfl (lv_at hl 6 rfl) ?_
    refine lv_iload hx hb dL_law_469 (lv_at hl 1 rfl) ?_
    refine lv_iconst (v := 1) hx hb dL_law_471 (by decide) ?_
    refine lv_iadd hx hb dL_law_472 ?_
    refine W.eq (congrArg (fun z : Int32 => F0 m 473 ls (.int z :: [.ref b, .ref w34])) (by decide : (0 + 1 : Int32) = 1)) ?_
    refine va_sld hx hb hX hbl hbA hS (i := 1) (by unfold vp_in; decide) dL_law_473 ?_
    have hPc := hP.sub (ws' := [(w34, .inr (12, [.int 0, .ref w35, .ref w36, .ref w37, .int (-1), .int (-1), .int 0, .ref w38, .ref w39, .ref w40, .ref w41, .ref w42, .ref w43, .ref w44, .ref w45, .ref w46, .int 0, .int 0, .null, .int 0, .int 45, .ref w47, .ref w48, .ref w49, .ref w50, .ref w51])), (w35, .inr (14, [.int 0, .ref tE, .int 0])), (w36, .inr (14, [.int 0, .ref tE, .int 0]))]) [12, 13, 14] rfl
    have hKc := hK.sub (tys' := []) [] rfl
    have hDc := hD.sub (ws' := [(w34, .inr (12, [.int 0, .ref w35, .ref w36, .ref w37, .int (-1), .int (-1), .int 0, .ref w38, .ref w39, .ref w40, .ref w41, .ref w42, .ref w43, .ref w44, .ref w45, .ref w46, .int 0, .int 0, .null, .int 0, .int 45, .ref w47, .ref w48, .ref w49, .ref w50, .ref w51])), (w35, .inr (14, [.int 0, .ref tE, .int 0])), (w36, .inr (14, [.int 0, .ref tE, .int 0]))]) [12, 13, 14] (by decide) rfl
    have hFc := va_free (wc := [(w34, .inr (12, [.int 0, .ref w35, .ref w36, .ref w37, .int (-1), .int (-1), .int 0, .ref w38, .ref w39, .ref w40, .ref w41, .ref w42, .ref w43, .ref w44, .ref w45, .ref w46, .int 0, .int 0, .null, .int 0, .int 45, .ref w47, .ref w48, .ref w49, .ref w50, .ref w51])), (w35, .inr (14, [.int 0, .ref tE, .int 0])), (w36, .inr (14, [.int 0, .ref tE, .int 0]))]) hD hS hA [12, 13, 14] rfl
    refine va_calli (va_runV (As := [.int (xs (1 : Int32).toNatClampNeg)]) (rest := []) ⟨hx, hb, hml, hown, hq⟩ (c_M_seat l hst tE adK adV dC dI w34 w35 w36 w37 w38 w39 w40 w41 w42 w43 w44 w45 w46 w47 w48 w49 w50 w51 0 (xs (1 : Int32).toNatClampNeg) H.size) (tcV 1 hq q_1622 q_12 q_1619 q_1620 q_1621 rfl rfl (by decide +kernel) ⟨Nat.le_of_ble_eq_true rfl, Nat.le_of_ble_eq_true rfl⟩) (pre.V (va_recv hK hP (ci := 12) (q0 := 12) rfl rfl) (pre.of hPc hDc hKc ham hS hFc)) rfl rfl hl.1 rfl (lv_room (Nat.le_of_ble_eq_true rfl)) dL_law_474 ⟨Nat.le_of_ble_eq_true rfl, Nat.le_of_ble_eq_true rfl⟩) hS (fun q _ h => hFc q h) hFc (fun r_2 u t H1 locs ht hvm hw hB hz1 hk1 hS => ?_)
    obtain ⟨hP1, hK1, hD1⟩ := hB
    rw [ht] at hP1
    have hK1 := va_K.moved hvm.symm hK1
    obtain ⟨hP, hD⟩ := va_join (wr := [(w0, .inr (10, [.ref w1, .ref w2, .ref w3, .ref w4, .ref w5, .ref w6, .ref w7, .ref w8])), (w1, .inr (7, [.ref w9, .ref w10, .ref w11, .ref w12, .ref w13, .ref w14, .ref w15, .int 0])), (w9, .inl (w16, 8, .inl (fun _ => 0))), (w10, .inl (w17, 8, .inl (fun _ => 0))), (w11, .inl (w18, 8, .inl (fun _ => 0))), (w12, .inl (w19, 8, .inl (fun _ => 0))), (w13, .inl (w20, 8, .inl (fun _ => 0))), (w14, .inl (w21, 8, .inl (fun _ => 0))), (w15, .inl (w22, 8, .inl (fun _ => 0))), (w2, .inr (2, [.ref w23, .ref w24, .ref w25, .int 0, .int (-1), .int (-1)])), (w3, .inr (4, [.ref w26, .ref w27, .ref w28, .int 0, .int 0, .int 0, .int 45])), (w26, .inr (3, [.ref w1, .ref w2, .ref w29, .ref w30, .ref w31, .ref w32, .ref w33, .int 0, .int 0])), (w52, .inl (w53, 1, .inr (.inl (fun _ => 0)))), (w54, .inl (w55, 1, .inr (.inr (.inr (.inl (fun _ => 0))))))]) (w1 := [(w34, .inr (12, [.int 1, .ref w35, .ref w36, .ref w37, .int (-1), .int (-1), .int 0, .ref w38, .ref w39, .ref w40, .ref w41, .ref w42, .ref w43, .ref w44, .ref w45, .ref w46, .int 0, .int 0, .null, .int 0, .int 45, .ref w47, .ref w48, .ref w49, .ref w50, .ref w51]))]) (wc := [(w34, .inr (12, [.int 0, .ref w35, .ref w36, .ref w37, .int (-1), .int (-1), .int 0, .ref w38, .ref w39, .ref w40, .ref w41, .ref w42, .ref w43, .ref w44, .ref w45, .ref w46, .int 0, .int 0, .null, .int 0, .int 45, .ref w47, .ref w48, .ref w49, .ref w50, .ref w51])), (w35, .inr (14, [.int 0, .ref tE, .int 0])), (w36, .inr (14, [.int 0, .ref tE, .int 0]))]) hP hD [12, 13, 14] [0, 1, 2, 3, 4, 5, 6, 7, 8, 9, 10, 11, 15, 16] rfl rfl (by decide) (by decide) hk1 hFc hP1 hD1
    have hK := (hK.sub (tys' := [(w16, .char), (w17, .char), (w18, .int), (w19, .boolean), (w20, .boolean), (w21, .boolean), (w22, .int), (w53, .long), (w55, .double)]) [0, 1, 2, 3, 4, 5, 6, 7, 8] rfl).app hK1
    generalize H1 = H at hP hS ⊢
    have hP : va_P (dC, dI) cls [(w0, .inr (10, [.ref w1, .ref w2, .ref w3, .ref w4, .ref w5, .ref w6, .ref w7, .ref w8])), (w1, .inr (7, [.ref w9, .ref w10, .ref w11, .ref w12, .ref w13, .ref w14, .ref w15, .int 0])), (w9, .inl (w16, 8, .inl (fun _ => 0))), (w10, .inl (w17, 8, .inl (fun _ => 0))), (w11, .inl (w18, 8, .inl (fun _ => 0))), (w12, .inl (w19, 8, .inl (fun _ => 0))), (w13, .inl (w20, 8, .inl (fun _ => 0))), (w14, .inl (w21, 8, .inl (fun _ => 0))), (w15, .inl (w22, 8, .inl (fun _ => 0))), (w2, .inr (2, [.ref w23, .ref w24, .ref w25, .int 0, .int (-1), .int (-1)])), (w3, .inr (4, [.ref w26, .ref w27, .ref w28, .int 0, .int 0, .int 0, .int 45])), (w26, .inr (3, [.ref w1, .ref w2, .ref w29, .ref w30, .ref w31, .ref w32, .ref w33, .int 0, .int 0])), (w52, .inl (w53, 1, .inr (.inl (fun _ => 0)))), (w54, .inl (w55, 1, .inr (.inr (.inr (.inl (fun _ => 0)))))), (w34, .inr (12, [.int 1, .ref w35, .ref w36, .ref w37, .int (-1), .int (-1), .int 0, .ref w38, .ref w39, .ref w40, .ref w41, .ref w42, .ref w43, .ref w44, .ref w45, .ref w46, .int 0, .int 0, .null, .int 0, .int 45, .ref w47, .ref w48, .ref w49, .ref w50, .ref w51]))] H := hP
    have hD : va_D A [(w0, .inr (10, [.ref w1, .ref w2, .ref w3, .ref w4, .ref w5, .ref w6, .ref w7, .ref w8])), (w1, .inr (7, [.ref w9, .ref w10, .ref w11, .ref w12, .ref w13, .ref w14, .ref w15, .int 0])), (w9, .inl (w16, 8, .inl (fun _ => 0))), (w10, .inl (w17, 8, .inl (fun _ => 0))), (w11, .inl (w18, 8, .inl (fun _ => 0))), (w12, .inl (w19, 8, .inl (fun _ => 0))), (w13, .inl (w20, 8, .inl (fun _ => 0))), (w14, .inl (w21, 8, .inl (fun _ => 0))), (w15, .inl (w22, 8, .inl (fun _ => 0))), (w2, .inr (2, [.ref w23, .ref w24, .ref w25, .int 0, .int (-1), .int (-1)])), (w3, .inr (4, [.ref w26, .ref w27, .ref w28, .int 0, .int 0, .int 0, .int 45])), (w26, .inr (3, [.ref w1, .ref w2, .ref w29, .ref w30, .ref w31, .ref w32, .ref w33, .int 0, .int 0])), (w52, .inl (w53, 1, .inr (.inl (fun _ => 0)))), (w54, .inl (w55, 1, .inr (.inr (.inr (.inl (fun _ => 0)))))), (w34, .inr (12, [.int 1, .ref w35, .ref w36, .ref w37, .int (-1), .int (-1), .int 0, .ref w38, .ref w39, .ref w40, .ref w41, .ref w42, .ref w43, .ref w44, .ref w45, .ref w46, .int 0, .int 0, .null, .int 0, .int 45, .ref w47, .ref w48, .ref w49, .ref w50, .ref w51]))] := hD
    have hK : va_K (dC, dI) cls [(w16, .char), (w17, .char), (w18, .int), (w19, .boolean), (w20, .boolean), (w21, .boolean), (w22, .int), (w53, .long), (w55, .double)] s := hK
    refine W.widen (k := 92) (n := 4908) (Nat.le_of_ble_eq_true rfl) (Nat.le_of_ble_eq_true rfl) ?_
    refine lv_istore (lv' := [(7, .int r_2), (6, .int 1), (5, .int 0), (4, .ref w54), (3, .ref w52), (2, .ref w34), (1, .ref w0), (0, .ref b)]) hx hb dL_law_477 hl (by decide) rfl (fun ls hl => ?_)
    refine lv_aload_n hx hb dL_law_479 rfl (lv_at hl 5 rfl) ?_
    have hPc := hP.sub (ws' := [(w34, .inr (12, [.int 1, .ref w35, .ref w36, .ref w37, .int (-1), .int (-1), .int 0, .ref w38, .ref w39, .ref w40, .ref w41, .ref w42, .ref w43, .ref w44, .ref w45, .ref w46, .int 0, .int 0, .null, .int 0, .int 45, .ref w47, .ref w48, .ref w49, .ref w50, .ref w51]))]) [14] rfl
    have hKc := hK.sub (tys' := []) [] rfl
    refine va_calli (va_runV (As := []) (rest := []) ⟨hx, hb, hml, hown, hq⟩ (c_thrown l hst tE adK adV dC dI w34 w35 w36 w37 w38 w39 w40 w41 w42 w43 w44 w45 w46 w47 w48 w49 w50 w51 1 H.size) (tcV 0 hq q_1264 q_12 q_1261 q_1262 q_1263 rfl rfl (by decide +kernel) ⟨Nat.le_of_ble_eq_true rfl, Nat.le_of_ble_eq_true rfl⟩) (preR.V (va_recv hK hP (ci := 12) (q0 := 14) rfl rfl) (preR.of hPc hKc ham hS hA)) rfl rfl hl.1 rfl (lv_room (Nat.le_of_ble_eq_true rfl)) dL_law_480 ⟨Nat.le_of_ble_eq_true rfl, Nat.le_of_ble_eq_true rfl⟩) hS (fun q _ h => hA q (Nat.le_trans hS.1 h)) (fun q h => hA q (Nat.le_trans hS.1 h)) (fun r_3 u t H1 locs ht hvm hw hB hz1 hk1 hS => ?_)
    have hP : va_P (dC, dI) cls [(w0, .inr (10, [.ref w1, .ref w2, .ref w3, .ref w4, .ref w5, .ref w6, .ref w7, .ref w8])), (w1, .inr (7, [.ref w9, .ref w10, .ref w11, .ref w12, .ref w13, .ref w14, .ref w15, .int 0])), (w9, .inl (w16, 8, .inl (fun _ => 0))), (w10, .inl (w17, 8, .inl (fun _ => 0))), (w11, .inl (w18, 8, .inl (fun _ => 0))), (w12, .inl (w19, 8, .inl (fun _ => 0))), (w13, .inl (w20, 8, .inl (fun _ => 0))), (w14, .inl (w21, 8, .inl (fun _ => 0))), (w15, .inl (w22, 8, .inl (fun _ => 0))), (w2, .inr (2, [.ref w23, .ref w24, .ref w25, .int 0, .int (-1), .int (-1)])), (w3, .inr (4, [.ref w26, .ref w27, .ref w28, .int 0, .int 0, .int 0, .int 45])), (w26, .inr (3, [.ref w1, .ref w2, .ref w29, .ref w30, .ref w31, .ref w32, .ref w33, .int 0, .int 0])), (w52, .inl (w53, 1, .inr (.inl (fun _ => 0)))), (w54, .inl (w55, 1, .inr (.inr (.inr (.inl (fun _ => 0)))))), (w34, .inr (12, [.int 1, .ref w35, .ref w36, .ref w37, .int (-1), .int (-1), .int 0, .ref w38, .ref w39, .ref w40, .ref w41, .ref w42, .ref w43, .ref w44, .ref w45, .ref w46, .int 0, .int 0, .null, .int 0, .int 45, .ref w47, .ref w48, .ref w49, .ref w50, .ref w51]))] H1 := ro_keep hP hk1
    generalize H1 = H at hP hS ⊢
    refine W.widen (k := 92) (n := 4908) (Nat.le_of_ble_eq_true rfl) (Nat.le_of_ble_eq_true rfl) ?_
    have hw : r_3 = 1 := hw
    subst hw
    refine lv_iload hx hb dL_law_483 (lv_at hl 1 rfl) ?_
    refine lv_icmp_eq (tgt := 490) hx hb dL_law_485 (by decide) (fun c_4 => ?_) (fun c_4 => ?_)
    · refine lv_iload hx hb dL_law_490 (lv_at hl 1 rfl) ?_
      refine lv_if_ne (tgt := 507) hx hb dL_law_492 (by decide) (fun c_5 => ?_) (fun c_5 => ?_)
      · refine lv_goto (tgt := 2585) hx hb dL_law_507 (by decide) ?_
        refine W.widen (k := 600002) (n := 7302232) (Nat.le_of_ble_eq_true rfl) (Nat.le_of_ble_eq_true rfl) ?_
        exact law_end C0 hA hA2 hS (lv_sub hl [7, 2] rfl)
      · exact absurd c_5 (by decide)
    · exact absurd c_4 (by decide)
theorem dL_law_510 : decode cL_law 510 = .ok (.aload_n 1, 1) := by decide +kernel
theorem dL_law_511 : decode cL_law 511 = .ok (.aload_n 0, 1) := by decide +kernel
theorem dL_law_512 : decode cL_law 512 = .ok (.iload 5, 2) := by decide +kernel
theorem dL_law_514 : decode cL_law 514 = .ok (.iconst 1, 1) := by decide +kernel
theorem dL_law_515 : decode cL_law 515 = .ok (.iadd, 1) := by decide +kernel
theorem dL_law_516 : decode cL_law 516 = .ok (.iaload, 1) := by decide +kernel
theorem dL_law_517 : decode cL_law 517 = .ok (.aload_n 0, 1) := by decide +kernel
theorem dL_law_518 : decode cL_law 518 = .ok (.iload 5, 2) := by decide +kernel
theorem dL_law_520 : decode cL_law 520 = .ok (.iconst 2, 1) := by decide +kernel
theorem dL_law_521 : decode cL_law 521 = .ok (.iadd, 1) := by decide +kernel
theorem dL_law_522 : decode cL_law 522 = .ok (.iaload, 1) := by decide +kernel
theorem dL_law_523 : decode cL_law 523 = .ok (.aload_n 3, 1) := by decide +kernel
theorem dL_law_524 : decode cL_law 524 = .ok (.invokestatic 162, 3) := by decide +kernel
theorem q_852 : (Cond.methodLink "NightfallVillageLaw" 162 yL_lovers) ∈ tw := tw_in (i := 852) (by decide +kernel) (by decide +kernel)
theorem q_853 : (Cond.static yL_lovers) ∈ tw := tw_in (i := 853) (by decide +kernel) (by decide +kernel)
theorem dL_law_527 : decode cL_law 527 = .ok (.istore 6, 2) := by decide +kernel
theorem dL_law_529 : decode cL_law 529 = .ok (.aload_n 2, 1) := by decide +kernel
theorem dL_law_530 : decode cL_law 530 = .ok (.aload_n 0, 1) := by decide +kernel
theorem dL_law_531 : decode cL_law 531 = .ok (.iload 5, 2) := by decide +kernel
theorem dL_law_533 : decode cL_law 533 = .ok (.iconst 1, 1) := by decide +kernel
theorem dL_law_534 : decode cL_law 534 = .ok (.iadd, 1) := by decide +kernel
theorem dL_law_535 : decode cL_law 535 = .ok (.iaload, 1) := by decide +kernel
theorem dL_law_536 : decode cL_law 536 = .ok (.aload_n 0, 1) := by decide +kernel
theorem dL_law_537 : decode cL_law 537 = .ok (.iload 5, 2) := by decide +kernel
theorem dL_law_539 : decode cL_law 539 = .ok (.iconst 2, 1) := by decide +kernel
theorem dL_law_540 : decode cL_law 540 = .ok (.iadd, 1) := by decide +kernel
theorem dL_law_541 : decode cL_law 541 = .ok (.iaload, 1) := by decide +kernel
theorem dL_law_542 : decode cL_law 542 = .ok (.invokevirtual 164, 3) := by decide +kernel
theorem q_1646 : (Cond.code yX12_lovers cX12_lovers 4 (some .boolean)) ∈ tw := tw_in (i := 1646) (by decide +kernel) (by decide +kernel)
theorem q_1643 : (Cond.methodLink "NightfallVillageLaw" 164 yX12_lovers) ∈ tw := tw_in (i := 1643) (by decide +kernel) (by decide +kernel)
theorem q_1644 : (Cond.instanceMethod yX12_lovers) ∈ tw := tw_in (i := 1644) (by decide +kernel) (by decide +kernel)
theorem q_1645 : (Cond.selects "NightfallVillageModel" yX12_lovers yX12_lovers) ∈ tw := tw_in (i := 1645) (by decide +kernel) (by decide +kernel)
theorem dL_law_545 : decode cL_law 545 = .ok (.istore 7, 2) := by decide +kernel
theorem dL_law_547 : decode cL_law 547 = .ok (.aload_n 2, 1) := by decide +kernel
theorem dL_law_548 : decode cL_law 548 = .ok (.invokevirtual 151, 3) := by decide +kernel
theorem dL_law_551 : decode cL_law 551 = .ok (.iload 6, 2) := by decide +kernel
theorem dL_law_553 : decode cL_law 553 = .ok (.if_icmp .eq 5, 3) := by decide +kernel
theorem dL_law_558 : decode cL_law 558 = .ok (.iload 6, 2) := by decide +kernel
theorem dL_law_560 : decode cL_law 560 = .ok (.ifCond .ne 22, 3) := by decide +kernel
theorem dL_law_582 : decode cL_law 582 = .ok (.goto 2003, 3) := by decide +kernel
set_option maxHeartbeats 8000000 in
set_option maxRecDepth 100000 in
theorem law_case_3 {p : Program} {l : Launch} {e : Env} {s : State} {m : MethodId} {below : List Frame} {meth : Method} {c : Code} (hst : l.stackTraces = false) {tE : Nat} {adK adV : Nat → Nat} {dC : Nat → ClassId} {dI : Nat → Nat → Nat} {b : Nat} {xs : Nat → Int32} (C0 : lw_At p s m meth c b 7 xs) {A : Nat → Prop} (hA : ∀ q, s.heap.size ≤ q → A q) (hA2 : ∀ q, A q → s.heap.size ≤ q) (ham : am tE adK adV A s s.heap) {w0 : Nat} {w1 : Nat} {w2 : Nat} {w3 : Nat} {w4 : Nat} {w5 : Nat} {w6 : Nat} {w7 : Nat} {w8 : Nat} {w9 : Nat} {w10 : Nat} {w11 : Nat} {w12 : Nat} {w13 : Nat} {w14 : Nat} {w15 : Nat} {w16 : ClassId} {w17 : ClassId} {w18 : ClassId} {w19 : ClassId} {w20 : ClassId} {w21 : ClassId} {w22 : ClassId} {w23 : Nat} {w24 : Nat} {w25 : Nat} {w26 : Nat} {w27 : Nat} {w28 : Nat} {w29 : Nat} {w30 : Nat} {w31 : Nat} {w32 : Nat} {w33 : Nat} {w34 : Nat} {w35 : Nat} {w36 : Nat} {w37 : Nat} {w38 : Nat} {w39 : Nat} {w40 : Nat} {w41 : Nat} {w42 : Nat} {w43 : Nat} {w44 : Nat} {w45 : Nat} {w46 : Nat} {w47 : Nat} {w48 : Nat} {w49 : Nat} {w50 : Nat} {w51 : Nat} {w52 : Nat} {w53 : ClassId} {w54 : Nat} {w55 : ClassId} {H : Heap} {locs : List Loc} (hK : va_K (dC, dI) cls [(w16, .char), (w17, .char), (w18, .int), (w19, .boolean), (w20, .boolean), (w21, .boolean), (w22, .int), (w53, .long), (w55, .double)] s) (hP : va_P (dC, dI) cls [(w0, .inr (10, [.ref w1, .ref w2, .ref w3, .ref w4, .ref w5, .ref w6, .ref w7, .ref w8])), (w1, .inr (7, [.ref w9, .ref w10, .ref w11, .ref w12, .ref w13, .ref w14, .ref w15, .int 0])), (w9, .inl (w16, 8, .inl (fun _ => 0))), (w10, .inl (w17, 8, .inl (fun _ => 0))), (w11, .inl (w18, 8, .inl (fun _ => 0))), (w12, .inl (w19, 8, .inl (fun _ => 0))), (w13, .inl (w20, 8, .inl (fun _ => 0))), (w14, .inl (w21, 8, .inl (fun _ => 0))), (w15, .inl (w22, 8, .inl (fun _ => 0))), (w2, .inr (2, [.ref w23, .ref w24, .ref w25, .int 0, .int (-1), .int (-1)])), (w3, .inr (4, [.ref w26, .ref w27, .ref w28, .int 0, .int 0, .int 0, .int 45])), (w26, .inr (3, [.ref w1, .ref w2, .ref w29, .ref w30, .ref w31, .ref w32, .ref w33, .int 0, .int 0])), (w34, .inr (12, [.int 0, .ref w35, .ref w36, .ref w37, .int (-1), .int (-1), .int 0, .ref w38, .ref w39, .ref w40, .ref w41, .ref w42, .ref w43, .ref w44, .ref w45, .ref w46, .int 0, .int 0, .null, .int 0, .int 45, .ref w47, .ref w48, .ref w49, .ref w50, .ref w51])), (w35, .inr (14, [.int 0, .ref tE, .int 0])), (w36, .inr (14, [.int 0, .ref tE, .int 0])), (w52, .inl (w53, 1, .inr (.inl (fun _ => 0)))), (w54, .inl (w55, 1, .inr (.inr (.inr (.inl (fun _ => 0))))))] H) (hD : va_D A [(w0, .inr (10, [.ref w1, .ref w2, .ref w3, .ref w4, .ref w5, .ref w6, .ref w7, .ref w8])), (w1, .inr (7, [.ref w9, .ref w10, .ref w11, .ref w12, .ref w13, .ref w14, .ref w15, .int 0])), (w9, .inl (w16, 8, .inl (fun _ => 0))), (w10, .inl (w17, 8, .inl (fun _ => 0))), (w11, .inl (w18, 8, .inl (fun _ => 0))), (w12, .inl (w19, 8, .inl (fun _ => 0))), (w13, .inl (w20, 8, .inl (fun _ => 0))), (w14, .inl (w21, 8, .inl (fun _ => 0))), (w15, .inl (w22, 8, .inl (fun _ => 0))), (w2, .inr (2, [.ref w23, .ref w24, .ref w25, .int 0, .int (-1), .int (-1)])), (w3, .inr (4, [.ref w26, .ref w27, .ref w28, .int 0, .int 0, .int 0, .int 45])), (w26, .inr (3, [.ref w1, .ref w2, .ref w29, .ref w30, .ref w31, .ref w32, .ref w33, .int 0, .int 0])), (w34, .inr (12, [.int 0, .ref w35, .ref w36, .ref w37, .int (-1), .int (-1), .int 0, .ref w38, .ref w39, .ref w40, .ref w41, .ref w42, .ref w43, .ref w44, .ref w45, .ref w46, .int 0, .int 0, .null, .int 0, .int 45, .ref w47, .ref w48, .ref w49, .ref w50, .ref w51])), (w35, .inr (14, [.int 0, .ref tE, .int 0])), (w36, .inr (14, [.int 0, .ref tE, .int 0])), (w52, .inl (w53, 1, .inr (.inl (fun _ => 0)))), (w54, .inl (w55, 1, .inr (.inr (.inr (.inl (fun _ => 0))))))]) (hS : va_S A s.heap H locs) {ls : Array Slot} (hl : lv_has ls 9 [(5, .int 0), (4, .ref w54), (3, .ref w52), (2, .ref w34), (1, .ref w0), (0, .ref b)]) : W p l e room_1 s m #[Value.ref b] below meth c H locs 91 4902 (lw_Z below #[Value.ref b] s) (F0 m 510 ls []) := by
  obtain ⟨hx, hb, hr, hml, hown0, hts, hX, hbl, hlocks, hgv⟩ := id C0
  have hq : ∀ w ∈ tw, w.before #[Value.ref b] s = true := tw_of hts
  have hown : s.vm.findClass RL = some m.cls := hown0
  have hbA : ¬ A b := fun h => Nat.not_le.mpr hbl (hA2 b h)
  refine lv_aload_n hx hb dL_law_510 rfl (lv_at hl 4 rfl) ?_
  refine lv_aload_n hx hb dL_law_511 rfl (lv_at hl 5 rfl) ?_
  refine lv_iload hx hb dL_law_512 (lv_at hl 0 rfl) ?_
  refine lv_iconst (v := 1) hx hb dL_law_514 (by decide) ?_
  refine lv_iadd hx hb dL_law_515 ?_
  refine W.eq (congrArg (fun z : Int32 => F0 m 516 ls (.int z :: [.ref b, .ref w0])) (by decide : (0 + 1 : Int32) = 1)) ?_
  refine va_sld hx hb hX hbl hbA hS (i := 1) (by unfold vp_in; decide) dL_law_516 ?_
  refine lv_aload_n hx hb dL_law_517 rfl (lv_at hl 5 rfl) ?_
  refine lv_iload hx hb dL_law_518 (lv_at hl 0 rfl) ?_
  refine lv_iconst (v := 2) hx hb dL_law_520 (by decide) ?_
  refine lv_iadd hx hb dL_law_521 ?_
  refine W.eq (congrArg (fun z : Int32 => F0 m 522 ls (.int z :: [.ref b, .int (xs (1 : Int32).toNatClampNeg), .ref w0])) (by decide : (0 + 2 : Int32) = 2)) ?_
  refine va_sld hx hb hX hbl hbA hS (i := 2) (by unfold vp_in; decide) dL_law_522 ?_
  refine lv_aload_n hx hb dL_law_523 rfl (lv_at hl 2 rfl) ?_
  have hPc := hP.sub (ws' := [(w0, .inr (10, [.ref w1, .ref w2, .ref w3, .ref w4, .ref w5, .ref w6, .ref w7, .ref w8])), (w1, .inr (7, [.ref w9, .ref w10, .ref w11, .ref w12, .ref w13, .ref w14, .ref w15, .int 0])), (w2, .inr (2, [.ref w23, .ref w24, .ref w25, .int 0, .int (-1), .int (-1)])), (w3, .inr (4, [.ref w26, .ref w27, .ref w28, .int 0, .int 0, .int 0, .int 45])), (w26, .inr (3, [.ref w1, .ref w2, .ref w29, .ref w30, .ref w31, .ref w32, .ref w33, .int 0, .int 0]))]) [0, 1, 9, 10, 11] rfl
  have hKc := hK.sub (tys' := []) [] rfl
  refine vx_calli (vx_runSX (As := [.ref w0, .int (xs (1 : Int32).toNatClampNeg), .int (xs (2 : Int32).toNatClampNeg), .ref w52]) (rest := []) ⟨hx, hb, hml, hown, hq⟩ (c_L_lovers l hst tE adK adV dC dI w0 w1 w2 w3 w4 w5 w6 w7 w8 w9 w10 w11 w12 w13 w14 w15 w23 w24 w25 w26 w27 w28 w29 w30 w31 w32 w33 w52 (xs (1 : Int32).toNatClampNeg) (xs (2 : Int32).toNatClampNeg) H.size) (tcSW 4 hq q_854 q_0 q_852 q_853 rfl rfl (by decide +kernel) ⟨Nat.le_of_ble_eq_true rfl, Nat.le_of_ble_eq_true rfl⟩) (preR.S (preR.of hPc hKc ham hS hA)) rfl rfl hl.1 rfl (lv_room (Nat.le_of_ble_eq_true rfl)) dL_law_524 ⟨Nat.le_of_ble_eq_true rfl, Nat.le_of_ble_eq_true rfl⟩) hS (fun q _ h => hA q (Nat.le_trans hS.1 h)) (fun q h => hA q (Nat.le_trans hS.1 h)) (fun q _ h => hA q (Nat.le_trans hS.1 h)) (fun E ce q9 u t H1 locs ht hvm hpx hB hz1 hk1 hS hce hcv hcl => ?_) (fun r_1 u t H1 locs ht hvm hw hB hz1 hk1 hS => ?_)
  · exact (hB : False).elim
  · have hP : va_P (dC, dI) cls [(w0, .inr (10, [.ref w1, .ref w2, .ref w3, .ref w4, .ref w5, .ref w6, .ref w7, .ref w8])), (w1, .inr (7, [.ref w9, .ref w10, .ref w11, .ref w12, .ref w13, .ref w14, .ref w15, .int 0])), (w9, .inl (w16, 8, .inl (fun _ => 0))), (w10, .inl (w17, 8, .inl (fun _ => 0))), (w11, .inl (w18, 8, .inl (fun _ => 0))), (w12, .inl (w19, 8, .inl (fun _ => 0))), (w13, .inl (w20, 8, .inl (fun _ => 0))), (w14, .inl (w21, 8, .inl (fun _ => 0))), (w15, .inl (w22, 8, .inl (fun _ => 0))), (w2, .inr (2, [.ref w23, .ref w24, .ref w25, .int 0, .int (-1), .int (-1)])), (w3, .inr (4, [.ref w26, .ref w27, .ref w28, .int 0, .int 0, .int 0, .int 45])), (w26, .inr (3, [.ref w1, .ref w2, .ref w29, .ref w30, .ref w31, .ref w32, .ref w33, .int 0, .int 0])), (w34, .inr (12, [.int 0, .ref w35, .ref w36, .ref w37, .int (-1), .int (-1), .int 0, .ref w38, .ref w39, .ref w40, .ref w41, .ref w42, .ref w43, .ref w44, .ref w45, .ref w46, .int 0, .int 0, .null, .int 0, .int 45, .ref w47, .ref w48, .ref w49, .ref w50, .ref w51])), (w35, .inr (14, [.int 0, .ref tE, .int 0])), (w36, .inr (14, [.int 0, .ref tE, .int 0])), (w52, .inl (w53, 1, .inr (.inl (fun _ => 0)))), (w54, .inl (w55, 1, .inr (.inr (.inr (.inl (fun _ => 0))))))] H1 := ro_keep hP hk1
    generalize H1 = H at hP hS ⊢
    refine W.widen (k := 92) (n := 4908) (Nat.le_of_ble_eq_true rfl) (Nat.le_of_ble_eq_true rfl) ?_
    have hw : r_1 = 1 := hw
    subst hw
    refine lv_istore (lv' := [(6, .int 1), (5, .int 0), (4, .ref w54), (3, .ref w52), (2, .ref w34), (1, .ref w0), (0, .ref b)]) hx hb dL_law_527 hl (by decide) rfl (fun ls hl => ?_)
    refine lv_aload_n hx hb dL_law_529 rfl (lv_at hl 4 rfl) ?_
    refine lv_aload_n hx hb dL_law_530 rfl (lv_at hl 6 rfl) ?_
    refine lv_iload hx hb dL_law_531 (lv_at hl 1 rfl) ?_
    refine lv_iconst (v := 1) hx hb dL_law_533 (by decide) ?_
    refine lv_iadd hx hb dL_law_534 ?_
    refine W.eq (congrArg (fun z : Int32 => F0 m 535 ls (.int z :: [.ref b, .ref w34])) (by decide : (0 + 1 : Int32) = 1)) ?_
    refine va_sld hx hb hX hbl hbA hS (i := 1) (by unfold vp_in; decide) dL_law_535 ?_
    refine lv_aload_n hx hb dL_law_536 rfl (lv_at hl 6 rfl) ?_
    refine lv_iload hx hb dL_law_537 (lv_at hl 1 rfl) ?_
    refine lv_iconst (v := 2) hx hb dL_law_539 (by decide) ?_
    refine lv_iadd hx hb dL_law_540 ?_
    refine W.eq (congrArg (fun z : Int32 => F0 m 541 ls (.int z :: [.ref b, .int (xs (1 : Int32).toNatClampNeg), .ref w34])) (by decide : (0 + 2 : Int32) = 2)) ?_
    refine va_sld hx hb hX hbl hbA hS (i := 2) (by unfold vp_in; decide) dL_law_541 ?_
    have hPc := hP.sub (ws' := [(w34, .inr (12, [.int 0, .ref w35, .ref w36, .ref w37, .int (-1), .int (-1), .int 0, .ref w38, .ref w39, .ref w40, .ref w41, .ref w42, .ref w43, .ref w44, .ref w45, .ref w46, .int 0, .int 0, .null, .int 0, .int 45, .ref w47, .ref w48, .ref w49, .ref w50, .ref w51])), (w35, .inr (14, [.int 0, .ref tE, .int 0])), (w36, .inr (14, [.int 0, .ref tE, .int 0]))]) [12, 13, 14] rfl
    have hKc := hK.sub (tys' := []) [] rfl
    have hDc := hD.sub (ws' := [(w34, .inr (12, [.int 0, .ref w35, .ref w36, .ref w37, .int (-1), .int (-1), .int 0, .ref w38, .ref w39, .ref w40, .ref w41, .ref w42, .ref w43, .ref w44, .ref w45, .ref w46, .int 0, .int 0, .null, .int 0, .int 45, .ref w47, .ref w48, .ref w49, .ref w50, .ref w51])), (w35, .inr (14, [.int 0, .ref tE, .int 0])), (w36, .inr (14, [.int 0, .ref tE, .int 0]))]) [12, 13, 14] (by decide) rfl
    have hFc := va_free (wc := [(w34, .inr (12, [.int 0, .ref w35, .ref w36, .ref w37, .int (-1), .int (-1), .int 0, .ref w38, .ref w39, .ref w40, .ref w41, .ref w42, .ref w43, .ref w44, .ref w45, .ref w46, .int 0, .int 0, .null, .int 0, .int 45, .ref w47, .ref w48, .ref w49, .ref w50, .ref w51])), (w35, .inr (14, [.int 0, .ref tE, .int 0])), (w36, .inr (14, [.int 0, .ref tE, .int 0]))]) hD hS hA [12, 13, 14] rfl
    refine va_calli (va_runV (As := [.int (xs (1 : Int32).toNatClampNeg), .int (xs (2 : Int32).toNatClampNeg)]) (rest := []) ⟨hx, hb, hml, hown, hq⟩ (c_M_lovers l hst tE adK adV dC dI w34 w35 w36 w37 w38 w39 w40 w41 w42 w43 w44 w45 w46 w47 w48 w49 w50 w51 0 (xs (1 : Int32).toNatClampNeg) (xs (2 : Int32).toNatClampNeg) H.size) (tcV 2 hq q_1646 q_12 q_1643 q_1644 q_1645 rfl rfl (by decide +kernel) ⟨Nat.le_of_ble_eq_true rfl, Nat.le_of_ble_eq_true rfl⟩) (pre.V (va_recv hK hP (ci := 12) (q0 := 12) rfl rfl) (pre.of hPc hDc hKc ham hS hFc)) rfl rfl hl.1 rfl (lv_room (Nat.le_of_ble_eq_true rfl)) dL_law_542 ⟨Nat.le_of_ble_eq_true rfl, Nat.le_of_ble_eq_true rfl⟩) hS (fun q _ h => hFc q h) hFc (fun r_2 u t H1 locs ht hvm hw hB hz1 hk1 hS => ?_)
    obtain ⟨hP1, hK1, hD1⟩ := hB
    rw [ht] at hP1
    have hK1 := va_K.moved hvm.symm hK1
    obtain ⟨hP, hD⟩ := va_join (wr := [(w0, .inr (10, [.ref w1, .ref w2, .ref w3, .ref w4, .ref w5, .ref w6, .ref w7, .ref w8])), (w1, .inr (7, [.ref w9, .ref w10, .ref w11, .ref w12, .ref w13, .ref w14, .ref w15, .int 0])), (w9, .inl (w16, 8, .inl (fun _ => 0))), (w10, .inl (w17, 8, .inl (fun _ => 0))), (w11, .inl (w18, 8, .inl (fun _ => 0))), (w12, .inl (w19, 8, .inl (fun _ => 0))), (w13, .inl (w20, 8, .inl (fun _ => 0))), (w14, .inl (w21, 8, .inl (fun _ => 0))), (w15, .inl (w22, 8, .inl (fun _ => 0))), (w2, .inr (2, [.ref w23, .ref w24, .ref w25, .int 0, .int (-1), .int (-1)])), (w3, .inr (4, [.ref w26, .ref w27, .ref w28, .int 0, .int 0, .int 0, .int 45])), (w26, .inr (3, [.ref w1, .ref w2, .ref w29, .ref w30, .ref w31, .ref w32, .ref w33, .int 0, .int 0])), (w52, .inl (w53, 1, .inr (.inl (fun _ => 0)))), (w54, .inl (w55, 1, .inr (.inr (.inr (.inl (fun _ => 0))))))]) (w1 := [(w34, .inr (12, [.int 1, .ref w35, .ref w36, .ref w37, .int (-1), .int (-1), .int 0, .ref w38, .ref w39, .ref w40, .ref w41, .ref w42, .ref w43, .ref w44, .ref w45, .ref w46, .int 0, .int 0, .null, .int 0, .int 45, .ref w47, .ref w48, .ref w49, .ref w50, .ref w51]))]) (wc := [(w34, .inr (12, [.int 0, .ref w35, .ref w36, .ref w37, .int (-1), .int (-1), .int 0, .ref w38, .ref w39, .ref w40, .ref w41, .ref w42, .ref w43, .ref w44, .ref w45, .ref w46, .int 0, .int 0, .null, .int 0, .int 45, .ref w47, .ref w48, .ref w49, .ref w50, .ref w51])), (w35, .inr (14, [.int 0, .ref tE, .int 0])), (w36, .inr (14, [.int 0, .ref tE, .int 0]))]) hP hD [12, 13, 14] [0, 1, 2, 3, 4, 5, 6, 7, 8, 9, 10, 11, 15, 16] rfl rfl (by decide) (by decide) hk1 hFc hP1 hD1
    have hK := (hK.sub (tys' := [(w16, .char), (w17, .char), (w18, .int), (w19, .boolean), (w20, .boolean), (w21, .boolean), (w22, .int), (w53, .long), (w55, .double)]) [0, 1, 2, 3, 4, 5, 6, 7, 8] rfl).app hK1
    generalize H1 = H at hP hS ⊢
    have hP : va_P (dC, dI) cls [(w0, .inr (10, [.ref w1, .ref w2, .ref w3, .ref w4, .ref w5, .ref w6, .ref w7, .ref w8])), (w1, .inr (7, [.ref w9, .ref w10, .ref w11, .ref w12, .ref w13, .ref w14, .ref w15, .int 0])), (w9, .inl (w16, 8, .inl (fun _ => 0))), (w10, .inl (w17, 8, .inl (fun _ => 0))), (w11, .inl (w18, 8, .inl (fun _ => 0))), (w12, .inl (w19, 8, .inl (fun _ => 0))), (w13, .inl (w20, 8, .inl (fun _ => 0))), (w14, .inl (w21, 8, .inl (fun _ => 0))), (w15, .inl (w22, 8, .inl (fun _ => 0))), (w2, .inr (2, [.ref w23, .ref w24, .ref w25, .int 0, .int (-1), .int (-1)])), (w3, .inr (4, [.ref w26, .ref w27, .ref w28, .int 0, .int 0, .int 0, .int 45])), (w26, .inr (3, [.ref w1, .ref w2, .ref w29, .ref w30, .ref w31, .ref w32, .ref w33, .int 0, .int 0])), (w52, .inl (w53, 1, .inr (.inl (fun _ => 0)))), (w54, .inl (w55, 1, .inr (.inr (.inr (.inl (fun _ => 0)))))), (w34, .inr (12, [.int 1, .ref w35, .ref w36, .ref w37, .int (-1), .int (-1), .int 0, .ref w38, .ref w39, .ref w40, .ref w41, .ref w42, .ref w43, .ref w44, .ref w45, .ref w46, .int 0, .int 0, .null, .int 0, .int 45, .ref w47, .ref w48, .ref w49, .ref w50, .ref w51]))] H := hP
    have hD : va_D A [(w0, .inr (10, [.ref w1, .ref w2, .ref w3, .ref w4, .ref w5, .ref w6, .ref w7, .ref w8])), (w1, .inr (7, [.ref w9, .ref w10, .ref w11, .ref w12, .ref w13, .ref w14, .ref w15, .int 0])), (w9, .inl (w16, 8, .inl (fun _ => 0))), (w10, .inl (w17, 8, .inl (fun _ => 0))), (w11, .inl (w18, 8, .inl (fun _ => 0))), (w12, .inl (w19, 8, .inl (fun _ => 0))), (w13, .inl (w20, 8, .inl (fun _ => 0))), (w14, .inl (w21, 8, .inl (fun _ => 0))), (w15, .inl (w22, 8, .inl (fun _ => 0))), (w2, .inr (2, [.ref w23, .ref w24, .ref w25, .int 0, .int (-1), .int (-1)])), (w3, .inr (4, [.ref w26, .ref w27, .ref w28, .int 0, .int 0, .int 0, .int 45])), (w26, .inr (3, [.ref w1, .ref w2, .ref w29, .ref w30, .ref w31, .ref w32, .ref w33, .int 0, .int 0])), (w52, .inl (w53, 1, .inr (.inl (fun _ => 0)))), (w54, .inl (w55, 1, .inr (.inr (.inr (.inl (fun _ => 0)))))), (w34, .inr (12, [.int 1, .ref w35, .ref w36, .ref w37, .int (-1), .int (-1), .int 0, .ref w38, .ref w39, .ref w40, .ref w41, .ref w42, .ref w43, .ref w44, .ref w45, .ref w46, .int 0, .int 0, .null, .int 0, .int 45, .ref w47, .ref w48, .ref w49, .ref w50, .ref w51]))] := hD
    have hK : va_K (dC, dI) cls [(w16, .char), (w17, .char), (w18, .int), (w19, .boolean), (w20, .boolean), (w21, .boolean), (w22, .int), (w53, .long), (w55, .double)] s := hK
    refine W.widen (k := 92) (n := 4908) (Nat.le_of_ble_eq_true rfl) (Nat.le_of_ble_eq_true rfl) ?_
    refine lv_istore (lv' := [(7, .int r_2), (6, .int 1), (5, .int 0), (4, .ref w54), (3, .ref w52), (2, .ref w34), (1, .ref w0), (0, .ref b)]) hx hb dL_law_545 hl (by decide) rfl (fun ls hl => ?_)
    refine lv_aload_n hx hb dL_law_547 rfl (lv_at hl 5 rfl) ?_
    have hPc := hP.sub (ws' := [(w34, .inr (12, [.int 1, .ref w35, .ref w36, .ref w37, .int (-1), .int (-1), .int 0, .ref w38, .ref w39, .ref w40, .ref w41, .ref w42, .ref w43, .ref w44, .ref w45, .ref w46, .int 0, .int 0, .null, .int 0, .int 45, .ref w47, .ref w48, .ref w49, .ref w50, .ref w51]))]) [14] rfl
    have hKc := hK.sub (tys' := []) [] rfl
    refine va_calli (va_runV (As := []) (rest := []) ⟨hx, hb, hml, hown, hq⟩ (c_thrown l hst tE adK adV dC dI w34 w35 w36 w37 w38 w39 w40 w41 w42 w43 w44 w45 w46 w47 w48 w49 w50 w51 1 H.size) (tcV 0 hq q_1264 q_12 q_1261 q_1262 q_1263 rfl rfl (by decide +kernel) ⟨Nat.le_of_ble_eq_true rfl, Nat.le_of_ble_eq_true rfl⟩) (preR.V (va_recv hK hP (ci := 12) (q0 := 14) rfl rfl) (preR.of hPc hKc ham hS hA)) rfl rfl hl.1 rfl (lv_room (Nat.le_of_ble_eq_true rfl)) dL_law_548 ⟨Nat.le_of_ble_eq_true rfl, Nat.le_of_ble_eq_true rfl⟩) hS (fun q _ h => hA q (Nat.le_trans hS.1 h)) (fun q h => hA q (Nat.le_trans hS.1 h)) (fun r_3 u t H1 locs ht hvm hw hB hz1 hk1 hS => ?_)
    have hP : va_P (dC, dI) cls [(w0, .inr (10, [.ref w1, .ref w2, .ref w3, .ref w4, .ref w5, .ref w6, .ref w7, .ref w8])), (w1, .inr (7, [.ref w9, .ref w10, .ref w11, .ref w12, .ref w13, .ref w14, .ref w15, .int 0])), (w9, .inl (w16, 8, .inl (fun _ => 0))), (w10, .inl (w17, 8, .inl (fun _ => 0))), (w11, .inl (w18, 8, .inl (fun _ => 0))), (w12, .inl (w19, 8, .inl (fun _ => 0))), (w13, .inl (w20, 8, .inl (fun _ => 0))), (w14, .inl (w21, 8, .inl (fun _ => 0))), (w15, .inl (w22, 8, .inl (fun _ => 0))), (w2, .inr (2, [.ref w23, .ref w24, .ref w25, .int 0, .int (-1), .int (-1)])), (w3, .inr (4, [.ref w26, .ref w27, .ref w28, .int 0, .int 0, .int 0, .int 45])), (w26, .inr (3, [.ref w1, .ref w2, .ref w29, .ref w30, .ref w31, .ref w32, .ref w33, .int 0, .int 0])), (w52, .inl (w53, 1, .inr (.inl (fun _ => 0)))), (w54, .inl (w55, 1, .inr (.inr (.inr (.inl (fun _ => 0)))))), (w34, .inr (12, [.int 1, .ref w35, .ref w36, .ref w37, .int (-1), .int (-1), .int 0, .ref w38, .ref w39, .ref w40, .ref w41, .ref w42, .ref w43, .ref w44, .ref w45, .ref w46, .int 0, .int 0, .null, .int 0, .int 45, .ref w47, .ref w48, .ref w49, .ref w50, .ref w51]))] H1 := ro_keep hP hk1
    generalize H1 = H at hP hS ⊢
    refine W.widen (k := 92) (n := 4908) (Nat.le_of_ble_eq_true rfl) (Nat.le_of_ble_eq_true rfl) ?_
    have hw : r_3 = 1 := hw
    subst hw
    refine lv_iload hx hb dL_law_551 (lv_at hl 1 rfl) ?_
    refine lv_icmp_eq (tgt := 558) hx hb dL_law_553 (by decide) (fun c_4 => ?_) (fun c_4 => ?_)
    · refine lv_iload hx hb dL_law_558 (lv_at hl 1 rfl) ?_
      refine lv_if_ne (tgt := 582) hx hb dL_law_560 (by decide) (fun c_5 => ?_) (fun c_5 => ?_)
      · refine lv_goto (tgt := 2585) hx hb dL_law_582 (by decide) ?_
        refine W.widen (k := 600002) (n := 7302232) (Nat.le_of_ble_eq_true rfl) (Nat.le_of_ble_eq_true rfl) ?_
        exact law_end C0 hA hA2 hS (lv_sub hl [7, 2] rfl)
      · exact absurd c_5 (by decide)
    · exact absurd c_4 (by decide)
theorem dL_law_585 : decode cL_law 585 = .ok (.aload_n 1, 1) := by decide +kernel
theorem dL_law_586 : decode cL_law 586 = .ok (.aload_n 0, 1) := by decide +kernel
theorem dL_law_587 : decode cL_law 587 = .ok (.iload 5, 2) := by decide +kernel
theorem dL_law_589 : decode cL_law 589 = .ok (.iconst 1, 1) := by decide +kernel
theorem dL_law_590 : decode cL_law 590 = .ok (.iadd, 1) := by decide +kernel
theorem dL_law_591 : decode cL_law 591 = .ok (.iaload, 1) := by decide +kernel
theorem dL_law_592 : decode cL_law 592 = .ok (.aload_n 0, 1) := by decide +kernel
theorem dL_law_593 : decode cL_law 593 = .ok (.iload 5, 2) := by decide +kernel
theorem dL_law_595 : decode cL_law 595 = .ok (.iconst 2, 1) := by decide +kernel
theorem dL_law_596 : decode cL_law 596 = .ok (.iadd, 1) := by decide +kernel
theorem dL_law_597 : decode cL_law 597 = .ok (.iaload, 1) := by decide +kernel
theorem dL_law_598 : decode cL_law 598 = .ok (.aload_n 3, 1) := by decide +kernel
theorem dL_law_599 : decode cL_law 599 = .ok (.invokestatic 165, 3) := by decide +kernel
theorem q_874 : (Cond.methodLink "NightfallVillageLaw" 165 yL_mark) ∈ tw := tw_in (i := 874) (by decide +kernel) (by decide +kernel)
theorem q_875 : (Cond.static yL_mark) ∈ tw := tw_in (i := 875) (by decide +kernel) (by decide +kernel)
theorem dL_law_602 : decode cL_law 602 = .ok (.istore 6, 2) := by decide +kernel
theorem dL_law_604 : decode cL_law 604 = .ok (.aload_n 2, 1) := by decide +kernel
theorem dL_law_605 : decode cL_law 605 = .ok (.aload_n 0, 1) := by decide +kernel
theorem dL_law_606 : decode cL_law 606 = .ok (.iload 5, 2) := by decide +kernel
theorem dL_law_608 : decode cL_law 608 = .ok (.iconst 1, 1) := by decide +kernel
theorem dL_law_609 : decode cL_law 609 = .ok (.iadd, 1) := by decide +kernel
theorem dL_law_610 : decode cL_law 610 = .ok (.iaload, 1) := by decide +kernel
theorem dL_law_611 : decode cL_law 611 = .ok (.aload_n 0, 1) := by decide +kernel
theorem dL_law_612 : decode cL_law 612 = .ok (.iload 5, 2) := by decide +kernel
theorem dL_law_614 : decode cL_law 614 = .ok (.iconst 2, 1) := by decide +kernel
theorem dL_law_615 : decode cL_law 615 = .ok (.iadd, 1) := by decide +kernel
theorem dL_law_616 : decode cL_law 616 = .ok (.iaload, 1) := by decide +kernel
theorem dL_law_617 : decode cL_law 617 = .ok (.invokevirtual 167, 3) := by decide +kernel
theorem q_1658 : (Cond.code yX12_mark cX12_mark 4 (some .int)) ∈ tw := tw_in (i := 1658) (by decide +kernel) (by decide +kernel)
theorem q_1655 : (Cond.methodLink "NightfallVillageLaw" 167 yX12_mark) ∈ tw := tw_in (i := 1655) (by decide +kernel) (by decide +kernel)
theorem q_1656 : (Cond.instanceMethod yX12_mark) ∈ tw := tw_in (i := 1656) (by decide +kernel) (by decide +kernel)
theorem q_1657 : (Cond.selects "NightfallVillageModel" yX12_mark yX12_mark) ∈ tw := tw_in (i := 1657) (by decide +kernel) (by decide +kernel)
theorem dL_law_620 : decode cL_law 620 = .ok (.istore 7, 2) := by decide +kernel
theorem dL_law_622 : decode cL_law 622 = .ok (.aload_n 2, 1) := by decide +kernel
theorem dL_law_623 : decode cL_law 623 = .ok (.invokevirtual 151, 3) := by decide +kernel
theorem dL_law_626 : decode cL_law 626 = .ok (.iload 6, 2) := by decide +kernel
theorem dL_law_628 : decode cL_law 628 = .ok (.if_icmp .eq 5, 3) := by decide +kernel
theorem dL_law_633 : decode cL_law 633 = .ok (.iload 6, 2) := by decide +kernel
theorem dL_law_635 : decode cL_law 635 = .ok (.ifCond .ne 15, 3) := by decide +kernel
theorem dL_law_650 : decode cL_law 650 = .ok (.goto 1935, 3) := by decide +kernel
set_option maxHeartbeats 8000000 in
set_option maxRecDepth 100000 in
theorem law_case_4 {p : Program} {l : Launch} {e : Env} {s : State} {m : MethodId} {below : List Frame} {meth : Method} {c : Code} (hst : l.stackTraces = false) {tE : Nat} {adK adV : Nat → Nat} {dC : Nat → ClassId} {dI : Nat → Nat → Nat} {b : Nat} {xs : Nat → Int32} (C0 : lw_At p s m meth c b 7 xs) {A : Nat → Prop} (hA : ∀ q, s.heap.size ≤ q → A q) (hA2 : ∀ q, A q → s.heap.size ≤ q) (ham : am tE adK adV A s s.heap) {w0 : Nat} {w1 : Nat} {w2 : Nat} {w3 : Nat} {w4 : Nat} {w5 : Nat} {w6 : Nat} {w7 : Nat} {w8 : Nat} {w9 : Nat} {w10 : Nat} {w11 : Nat} {w12 : Nat} {w13 : Nat} {w14 : Nat} {w15 : Nat} {w16 : ClassId} {w17 : ClassId} {w18 : ClassId} {w19 : ClassId} {w20 : ClassId} {w21 : ClassId} {w22 : ClassId} {w23 : Nat} {w24 : Nat} {w25 : Nat} {w26 : Nat} {w27 : Nat} {w28 : Nat} {w29 : Nat} {w30 : Nat} {w31 : Nat} {w32 : Nat} {w33 : Nat} {w34 : Nat} {w35 : Nat} {w36 : Nat} {w37 : Nat} {w38 : Nat} {w39 : Nat} {w40 : Nat} {w41 : Nat} {w42 : Nat} {w43 : Nat} {w44 : Nat} {w45 : Nat} {w46 : Nat} {w47 : Nat} {w48 : Nat} {w49 : Nat} {w50 : Nat} {w51 : Nat} {w52 : Nat} {w53 : ClassId} {w54 : Nat} {w55 : ClassId} {H : Heap} {locs : List Loc} (hK : va_K (dC, dI) cls [(w16, .char), (w17, .char), (w18, .int), (w19, .boolean), (w20, .boolean), (w21, .boolean), (w22, .int), (w53, .long), (w55, .double)] s) (hP : va_P (dC, dI) cls [(w0, .inr (10, [.ref w1, .ref w2, .ref w3, .ref w4, .ref w5, .ref w6, .ref w7, .ref w8])), (w1, .inr (7, [.ref w9, .ref w10, .ref w11, .ref w12, .ref w13, .ref w14, .ref w15, .int 0])), (w9, .inl (w16, 8, .inl (fun _ => 0))), (w10, .inl (w17, 8, .inl (fun _ => 0))), (w11, .inl (w18, 8, .inl (fun _ => 0))), (w12, .inl (w19, 8, .inl (fun _ => 0))), (w13, .inl (w20, 8, .inl (fun _ => 0))), (w14, .inl (w21, 8, .inl (fun _ => 0))), (w15, .inl (w22, 8, .inl (fun _ => 0))), (w2, .inr (2, [.ref w23, .ref w24, .ref w25, .int 0, .int (-1), .int (-1)])), (w3, .inr (4, [.ref w26, .ref w27, .ref w28, .int 0, .int 0, .int 0, .int 45])), (w26, .inr (3, [.ref w1, .ref w2, .ref w29, .ref w30, .ref w31, .ref w32, .ref w33, .int 0, .int 0])), (w34, .inr (12, [.int 0, .ref w35, .ref w36, .ref w37, .int (-1), .int (-1), .int 0, .ref w38, .ref w39, .ref w40, .ref w41, .ref w42, .ref w43, .ref w44, .ref w45, .ref w46, .int 0, .int 0, .null, .int 0, .int 45, .ref w47, .ref w48, .ref w49, .ref w50, .ref w51])), (w35, .inr (14, [.int 0, .ref tE, .int 0])), (w36, .inr (14, [.int 0, .ref tE, .int 0])), (w52, .inl (w53, 1, .inr (.inl (fun _ => 0)))), (w54, .inl (w55, 1, .inr (.inr (.inr (.inl (fun _ => 0))))))] H) (hD : va_D A [(w0, .inr (10, [.ref w1, .ref w2, .ref w3, .ref w4, .ref w5, .ref w6, .ref w7, .ref w8])), (w1, .inr (7, [.ref w9, .ref w10, .ref w11, .ref w12, .ref w13, .ref w14, .ref w15, .int 0])), (w9, .inl (w16, 8, .inl (fun _ => 0))), (w10, .inl (w17, 8, .inl (fun _ => 0))), (w11, .inl (w18, 8, .inl (fun _ => 0))), (w12, .inl (w19, 8, .inl (fun _ => 0))), (w13, .inl (w20, 8, .inl (fun _ => 0))), (w14, .inl (w21, 8, .inl (fun _ => 0))), (w15, .inl (w22, 8, .inl (fun _ => 0))), (w2, .inr (2, [.ref w23, .ref w24, .ref w25, .int 0, .int (-1), .int (-1)])), (w3, .inr (4, [.ref w26, .ref w27, .ref w28, .int 0, .int 0, .int 0, .int 45])), (w26, .inr (3, [.ref w1, .ref w2, .ref w29, .ref w30, .ref w31, .ref w32, .ref w33, .int 0, .int 0])), (w34, .inr (12, [.int 0, .ref w35, .ref w36, .ref w37, .int (-1), .int (-1), .int 0, .ref w38, .ref w39, .ref w40, .ref w41, .ref w42, .ref w43, .ref w44, .ref w45, .ref w46, .int 0, .int 0, .null, .int 0, .int 45, .ref w47, .ref w48, .ref w49, .ref w50, .ref w51])), (w35, .inr (14, [.int 0, .ref tE, .int 0])), (w36, .inr (14, [.int 0, .ref tE, .int 0])), (w52, .inl (w53, 1, .inr (.inl (fun _ => 0)))), (w54, .inl (w55, 1, .inr (.inr (.inr (.inl (fun _ => 0))))))]) (hS : va_S A s.heap H locs) {ls : Array Slot} (hl : lv_has ls 9 [(5, .int 0), (4, .ref w54), (3, .ref w52), (2, .ref w34), (1, .ref w0), (0, .ref b)]) : W p l e room_1 s m #[Value.ref b] below meth c H locs 91 4902 (lw_Z below #[Value.ref b] s) (F0 m 585 ls []) := by
  obtain ⟨hx, hb, hr, hml, hown0, hts, hX, hbl, hlocks, hgv⟩ := id C0
  have hq : ∀ w ∈ tw, w.before #[Value.ref b] s = true := tw_of hts
  have hown : s.vm.findClass RL = some m.cls := hown0
  have hbA : ¬ A b := fun h => Nat.not_le.mpr hbl (hA2 b h)
  refine lv_aload_n hx hb dL_law_585 rfl (lv_at hl 4 rfl) ?_
  refine lv_aload_n hx hb dL_law_586 rfl (lv_at hl 5 rfl) ?_
  refine lv_iload hx hb dL_law_587 (lv_at hl 0 rfl) ?_
  refine lv_iconst (v := 1) hx hb dL_law_589 (by decide) ?_
  refine lv_iadd hx hb dL_law_590 ?_
  refine W.eq (congrArg (fun z : Int32 => F0 m 591 ls (.int z :: [.ref b, .ref w0])) (by decide : (0 + 1 : Int32) = 1)) ?_
  refine va_sld hx hb hX hbl hbA hS (i := 1) (by unfold vp_in; decide) dL_law_591 ?_
  refine lv_aload_n hx hb dL_law_592 rfl (lv_at hl 5 rfl) ?_
  refine lv_iload hx hb dL_law_593 (lv_at hl 0 rfl) ?_
  refine lv_iconst (v := 2) hx hb dL_law_595 (by decide) ?_
  refine lv_iadd hx hb dL_law_596 ?_
  refine W.eq (congrArg (fun z : Int32 => F0 m 597 ls (.int z :: [.ref b, .int (xs (1 : Int32).toNatClampNeg), .ref w0])) (by decide : (0 + 2 : Int32) = 2)) ?_
  refine va_sld hx hb hX hbl hbA hS (i := 2) (by unfold vp_in; decide) dL_law_597 ?_
  refine lv_aload_n hx hb dL_law_598 rfl (lv_at hl 2 rfl) ?_
  have hPc := hP.sub (ws' := [(w0, .inr (10, [.ref w1, .ref w2, .ref w3, .ref w4, .ref w5, .ref w6, .ref w7, .ref w8])), (w1, .inr (7, [.ref w9, .ref w10, .ref w11, .ref w12, .ref w13, .ref w14, .ref w15, .int 0])), (w2, .inr (2, [.ref w23, .ref w24, .ref w25, .int 0, .int (-1), .int (-1)])), (w3, .inr (4, [.ref w26, .ref w27, .ref w28, .int 0, .int 0, .int 0, .int 45])), (w26, .inr (3, [.ref w1, .ref w2, .ref w29, .ref w30, .ref w31, .ref w32, .ref w33, .int 0, .int 0]))]) [0, 1, 9, 10, 11] rfl
  have hKc := hK.sub (tys' := []) [] rfl
  refine vx_calli (vx_runSX (As := [.ref w0, .int (xs (1 : Int32).toNatClampNeg), .int (xs (2 : Int32).toNatClampNeg), .ref w52]) (rest := []) ⟨hx, hb, hml, hown, hq⟩ (c_L_mark l hst tE adK adV dC dI w0 w1 w2 w3 w4 w5 w6 w7 w8 w9 w10 w11 w12 w13 w14 w15 w23 w24 w25 w26 w27 w28 w29 w30 w31 w32 w33 w52 (xs (1 : Int32).toNatClampNeg) (xs (2 : Int32).toNatClampNeg) H.size) (tcSW 4 hq q_876 q_0 q_874 q_875 rfl rfl (by decide +kernel) ⟨Nat.le_of_ble_eq_true rfl, Nat.le_of_ble_eq_true rfl⟩) (preR.S (preR.of hPc hKc ham hS hA)) rfl rfl hl.1 rfl (lv_room (Nat.le_of_ble_eq_true rfl)) dL_law_599 ⟨Nat.le_of_ble_eq_true rfl, Nat.le_of_ble_eq_true rfl⟩) hS (fun q _ h => hA q (Nat.le_trans hS.1 h)) (fun q h => hA q (Nat.le_trans hS.1 h)) (fun q _ h => hA q (Nat.le_trans hS.1 h)) (fun E ce q9 u t H1 locs ht hvm hpx hB hz1 hk1 hS hce hcv hcl => ?_) (fun r_1 u t H1 locs ht hvm hw hB hz1 hk1 hS => ?_)
  · exact (hB : False).elim
  · have hP : va_P (dC, dI) cls [(w0, .inr (10, [.ref w1, .ref w2, .ref w3, .ref w4, .ref w5, .ref w6, .ref w7, .ref w8])), (w1, .inr (7, [.ref w9, .ref w10, .ref w11, .ref w12, .ref w13, .ref w14, .ref w15, .int 0])), (w9, .inl (w16, 8, .inl (fun _ => 0))), (w10, .inl (w17, 8, .inl (fun _ => 0))), (w11, .inl (w18, 8, .inl (fun _ => 0))), (w12, .inl (w19, 8, .inl (fun _ => 0))), (w13, .inl (w20, 8, .inl (fun _ => 0))), (w14, .inl (w21, 8, .inl (fun _ => 0))), (w15, .inl (w22, 8, .inl (fun _ => 0))), (w2, .inr (2, [.ref w23, .ref w24, .ref w25, .int 0, .int (-1), .int (-1)])), (w3, .inr (4, [.ref w26, .ref w27, .ref w28, .int 0, .int 0, .int 0, .int 45])), (w26, .inr (3, [.ref w1, .ref w2, .ref w29, .ref w30, .ref w31, .ref w32, .ref w33, .int 0, .int 0])), (w34, .inr (12, [.int 0, .ref w35, .ref w36, .ref w37, .int (-1), .int (-1), .int 0, .ref w38, .ref w39, .ref w40, .ref w41, .ref w42, .ref w43, .ref w44, .ref w45, .ref w46, .int 0, .int 0, .null, .int 0, .int 45, .ref w47, .ref w48, .ref w49, .ref w50, .ref w51])), (w35, .inr (14, [.int 0, .ref tE, .int 0])), (w36, .inr (14, [.int 0, .ref tE, .int 0])), (w52, .inl (w53, 1, .inr (.inl (fun _ => 0)))), (w54, .inl (w55, 1, .inr (.inr (.inr (.inl (fun _ => 0))))))] H1 := ro_keep hP hk1
    generalize H1 = H at hP hS ⊢
    refine W.widen (k := 92) (n := 4908) (Nat.le_of_ble_eq_true rfl) (Nat.le_of_ble_eq_true rfl) ?_
    have hw : r_1 = 1 := hw
    subst hw
    refine lv_istore (lv' := [(6, .int 1), (5, .int 0), (4, .ref w54), (3, .ref w52), (2, .ref w34), (1, .ref w0), (0, .ref b)]) hx hb dL_law_602 hl (by decide) rfl (fun ls hl => ?_)
    refine lv_aload_n hx hb dL_law_604 rfl (lv_at hl 4 rfl) ?_
    refine lv_aload_n hx hb dL_law_605 rfl (lv_at hl 6 rfl) ?_
    refine lv_iload hx hb dL_law_606 (lv_at hl 1 rfl) ?_
    refine lv_iconst (v := 1) hx hb dL_law_608 (by decide) ?_
    refine lv_iadd hx hb dL_law_609 ?_
    refine W.eq (congrArg (fun z : Int32 => F0 m 610 ls (.int z :: [.ref b, .ref w34])) (by decide : (0 + 1 : Int32) = 1)) ?_
    refine va_sld hx hb hX hbl hbA hS (i := 1) (by unfold vp_in; decide) dL_law_610 ?_
    refine lv_aload_n hx hb dL_law_611 rfl (lv_at hl 6 rfl) ?_
    refine lv_iload hx hb dL_law_612 (lv_at hl 1 rfl) ?_
    refine lv_iconst (v := 2) hx hb dL_law_614 (by decide) ?_
    refine lv_iadd hx hb dL_law_615 ?_
    refine W.eq (congrArg (fun z : Int32 => F0 m 616 ls (.int z :: [.ref b, .int (xs (1 : Int32).toNatClampNeg), .ref w34])) (by decide : (0 + 2 : Int32) = 2)) ?_
    refine va_sld hx hb hX hbl hbA hS (i := 2) (by unfold vp_in; decide) dL_law_616 ?_
    have hPc := hP.sub (ws' := [(w34, .inr (12, [.int 0, .ref w35, .ref w36, .ref w37, .int (-1), .int (-1), .int 0, .ref w38, .ref w39, .ref w40, .ref w41, .ref w42, .ref w43, .ref w44, .ref w45, .ref w46, .int 0, .int 0, .null, .int 0, .int 45, .ref w47, .ref w48, .ref w49, .ref w50, .ref w51])), (w35, .inr (14, [.int 0, .ref tE, .int 0])), (w36, .inr (14, [.int 0, .ref tE, .int 0]))]) [12, 13, 14] rfl
    have hKc := hK.sub (tys' := []) [] rfl
    have hDc := hD.sub (ws' := [(w34, .inr (12, [.int 0, .ref w35, .ref w36, .ref w37, .int (-1), .int (-1), .int 0, .ref w38, .ref w39, .ref w40, .ref w41, .ref w42, .ref w43, .ref w44, .ref w45, .ref w46, .int 0, .int 0, .null, .int 0, .int 45, .ref w47, .ref w48, .ref w49, .ref w50, .ref w51])), (w35, .inr (14, [.int 0, .ref tE, .int 0])), (w36, .inr (14, [.int 0, .ref tE, .int 0]))]) [12, 13, 14] (by decide) rfl
    have hFc := va_free (wc := [(w34, .inr (12, [.int 0, .ref w35, .ref w36, .ref w37, .int (-1), .int (-1), .int 0, .ref w38, .ref w39, .ref w40, .ref w41, .ref w42, .ref w43, .ref w44, .ref w45, .ref w46, .int 0, .int 0, .null, .int 0, .int 45, .ref w47, .ref w48, .ref w49, .ref w50, .ref w51])), (w35, .inr (14, [.int 0, .ref tE, .int 0])), (w36, .inr (14, [.int 0, .ref tE, .int 0]))]) hD hS hA [12, 13, 14] rfl
    refine va_calli (va_runV (As := [.int (xs (1 : Int32).toNatClampNeg), .int (xs (2 : Int32).toNatClampNeg)]) (rest := []) ⟨hx, hb, hml, hown, hq⟩ (c_M_mark l hst tE adK adV dC dI w34 w35 w36 w37 w38 w39 w40 w41 w42 w43 w44 w45 w46 w47 w48 w49 w50 w51 0 (xs (1 : Int32).toNatClampNeg) (xs (2 : Int32).toNatClampNeg) H.size) (tcV 2 hq q_1658 q_12 q_1655 q_1656 q_1657 rfl rfl (by decide +kernel) ⟨Nat.le_of_ble_eq_true rfl, Nat.le_of_ble_eq_true rfl⟩) (pre.V (va_recv hK hP (ci := 12) (q0 := 12) rfl rfl) (pre.of hPc hDc hKc ham hS hFc)) rfl rfl hl.1 rfl (lv_room (Nat.le_of_ble_eq_true rfl)) dL_law_617 ⟨Nat.le_of_ble_eq_true rfl, Nat.le_of_ble_eq_true rfl⟩) hS (fun q _ h => hFc q h) hFc (fun r_2 u t H1 locs ht hvm hw hB hz1 hk1 hS => ?_)
    obtain ⟨hP1, hK1, hD1⟩ := hB
    rw [ht] at hP1
    have hK1 := va_K.moved hvm.symm hK1
    obtain ⟨hP, hD⟩ := va_join (wr := [(w0, .inr (10, [.ref w1, .ref w2, .ref w3, .ref w4, .ref w5, .ref w6, .ref w7, .ref w8])), (w1, .inr (7, [.ref w9, .ref w10, .ref w11, .ref w12, .ref w13, .ref w14, .ref w15, .int 0])), (w9, .inl (w16, 8, .inl (fun _ => 0))), (w10, .inl (w17, 8, .inl (fun _ => 0))), (w11, .inl (w18, 8, .inl (fun _ => 0))), (w12, .inl (w19, 8, .inl (fun _ => 0))), (w13, .inl (w20, 8, .inl (fun _ => 0))), (w14, .inl (w21, 8, .inl (fun _ => 0))), (w15, .inl (w22, 8, .inl (fun _ => 0))), (w2, .inr (2, [.ref w23, .ref w24, .ref w25, .int 0, .int (-1), .int (-1)])), (w3, .inr (4, [.ref w26, .ref w27, .ref w28, .int 0, .int 0, .int 0, .int 45])), (w26, .inr (3, [.ref w1, .ref w2, .ref w29, .ref w30, .ref w31, .ref w32, .ref w33, .int 0, .int 0])), (w52, .inl (w53, 1, .inr (.inl (fun _ => 0)))), (w54, .inl (w55, 1, .inr (.inr (.inr (.inl (fun _ => 0))))))]) (w1 := [(w34, .inr (12, [.int 1, .ref w35, .ref w36, .ref w37, .int (-1), .int (-1), .int 0, .ref w38, .ref w39, .ref w40, .ref w41, .ref w42, .ref w43, .ref w44, .ref w45, .ref w46, .int 0, .int 0, .null, .int 0, .int 45, .ref w47, .ref w48, .ref w49, .ref w50, .ref w51]))]) (wc := [(w34, .inr (12, [.int 0, .ref w35, .ref w36, .ref w37, .int (-1), .int (-1), .int 0, .ref w38, .ref w39, .ref w40, .ref w41, .ref w42, .ref w43, .ref w44, .ref w45, .ref w46, .int 0, .int 0, .null, .int 0, .int 45, .ref w47, .ref w48, .ref w49, .ref w50, .ref w51])), (w35, .inr (14, [.int 0, .ref tE, .int 0])), (w36, .inr (14, [.int 0, .ref tE, .int 0]))]) hP hD [12, 13, 14] [0, 1, 2, 3, 4, 5, 6, 7, 8, 9, 10, 11, 15, 16] rfl rfl (by decide) (by decide) hk1 hFc hP1 hD1
    have hK := (hK.sub (tys' := [(w16, .char), (w17, .char), (w18, .int), (w19, .boolean), (w20, .boolean), (w21, .boolean), (w22, .int), (w53, .long), (w55, .double)]) [0, 1, 2, 3, 4, 5, 6, 7, 8] rfl).app hK1
    generalize H1 = H at hP hS ⊢
    have hP : va_P (dC, dI) cls [(w0, .inr (10, [.ref w1, .ref w2, .ref w3, .ref w4, .ref w5, .ref w6, .ref w7, .ref w8])), (w1, .inr (7, [.ref w9, .ref w10, .ref w11, .ref w12, .ref w13, .ref w14, .ref w15, .int 0])), (w9, .inl (w16, 8, .inl (fun _ => 0))), (w10, .inl (w17, 8, .inl (fun _ => 0))), (w11, .inl (w18, 8, .inl (fun _ => 0))), (w12, .inl (w19, 8, .inl (fun _ => 0))), (w13, .inl (w20, 8, .inl (fun _ => 0))), (w14, .inl (w21, 8, .inl (fun _ => 0))), (w15, .inl (w22, 8, .inl (fun _ => 0))), (w2, .inr (2, [.ref w23, .ref w24, .ref w25, .int 0, .int (-1), .int (-1)])), (w3, .inr (4, [.ref w26, .ref w27, .ref w28, .int 0, .int 0, .int 0, .int 45])), (w26, .inr (3, [.ref w1, .ref w2, .ref w29, .ref w30, .ref w31, .ref w32, .ref w33, .int 0, .int 0])), (w52, .inl (w53, 1, .inr (.inl (fun _ => 0)))), (w54, .inl (w55, 1, .inr (.inr (.inr (.inl (fun _ => 0)))))), (w34, .inr (12, [.int 1, .ref w35, .ref w36, .ref w37, .int (-1), .int (-1), .int 0, .ref w38, .ref w39, .ref w40, .ref w41, .ref w42, .ref w43, .ref w44, .ref w45, .ref w46, .int 0, .int 0, .null, .int 0, .int 45, .ref w47, .ref w48, .ref w49, .ref w50, .ref w51]))] H := hP
    have hD : va_D A [(w0, .inr (10, [.ref w1, .ref w2, .ref w3, .ref w4, .ref w5, .ref w6, .ref w7, .ref w8])), (w1, .inr (7, [.ref w9, .ref w10, .ref w11, .ref w12, .ref w13, .ref w14, .ref w15, .int 0])), (w9, .inl (w16, 8, .inl (fun _ => 0))), (w10, .inl (w17, 8, .inl (fun _ => 0))), (w11, .inl (w18, 8, .inl (fun _ => 0))), (w12, .inl (w19, 8, .inl (fun _ => 0))), (w13, .inl (w20, 8, .inl (fun _ => 0))), (w14, .inl (w21, 8, .inl (fun _ => 0))), (w15, .inl (w22, 8, .inl (fun _ => 0))), (w2, .inr (2, [.ref w23, .ref w24, .ref w25, .int 0, .int (-1), .int (-1)])), (w3, .inr (4, [.ref w26, .ref w27, .ref w28, .int 0, .int 0, .int 0, .int 45])), (w26, .inr (3, [.ref w1, .ref w2, .ref w29, .ref w30, .ref w31, .ref w32, .ref w33, .int 0, .int 0])), (w52, .inl (w53, 1, .inr (.inl (fun _ => 0)))), (w54, .inl (w55, 1, .inr (.inr (.inr (.inl (fun _ => 0)))))), (w34, .inr (12, [.int 1, .ref w35, .ref w36, .ref w37, .int (-1), .int (-1), .int 0, .ref w38, .ref w39, .ref w40, .ref w41, .ref w42, .ref w43, .ref w44, .ref w45, .ref w46, .int 0, .int 0, .null, .int 0, .int 45, .ref w47, .ref w48, .ref w49, .ref w50, .ref w51]))] := hD
    have hK : va_K (dC, dI) cls [(w16, .char), (w17, .char), (w18, .int), (w19, .boolean), (w20, .boolean), (w21, .boolean), (w22, .int), (w53, .long), (w55, .double)] s := hK
    refine W.widen (k := 92) (n := 4908) (Nat.le_of_ble_eq_true rfl) (Nat.le_of_ble_eq_true rfl) ?_
    refine lv_istore (lv' := [(7, .int r_2), (6, .int 1), (5, .int 0), (4, .ref w54), (3, .ref w52), (2, .ref w34), (1, .ref w0), (0, .ref b)]) hx hb dL_law_620 hl (by decide) rfl (fun ls hl => ?_)
    refine lv_aload_n hx hb dL_law_622 rfl (lv_at hl 5 rfl) ?_
    have hPc := hP.sub (ws' := [(w34, .inr (12, [.int 1, .ref w35, .ref w36, .ref w37, .int (-1), .int (-1), .int 0, .ref w38, .ref w39, .ref w40, .ref w41, .ref w42, .ref w43, .ref w44, .ref w45, .ref w46, .int 0, .int 0, .null, .int 0, .int 45, .ref w47, .ref w48, .ref w49, .ref w50, .ref w51]))]) [14] rfl
    have hKc := hK.sub (tys' := []) [] rfl
    refine va_calli (va_runV (As := []) (rest := []) ⟨hx, hb, hml, hown, hq⟩ (c_thrown l hst tE adK adV dC dI w34 w35 w36 w37 w38 w39 w40 w41 w42 w43 w44 w45 w46 w47 w48 w49 w50 w51 1 H.size) (tcV 0 hq q_1264 q_12 q_1261 q_1262 q_1263 rfl rfl (by decide +kernel) ⟨Nat.le_of_ble_eq_true rfl, Nat.le_of_ble_eq_true rfl⟩) (preR.V (va_recv hK hP (ci := 12) (q0 := 14) rfl rfl) (preR.of hPc hKc ham hS hA)) rfl rfl hl.1 rfl (lv_room (Nat.le_of_ble_eq_true rfl)) dL_law_623 ⟨Nat.le_of_ble_eq_true rfl, Nat.le_of_ble_eq_true rfl⟩) hS (fun q _ h => hA q (Nat.le_trans hS.1 h)) (fun q h => hA q (Nat.le_trans hS.1 h)) (fun r_3 u t H1 locs ht hvm hw hB hz1 hk1 hS => ?_)
    have hP : va_P (dC, dI) cls [(w0, .inr (10, [.ref w1, .ref w2, .ref w3, .ref w4, .ref w5, .ref w6, .ref w7, .ref w8])), (w1, .inr (7, [.ref w9, .ref w10, .ref w11, .ref w12, .ref w13, .ref w14, .ref w15, .int 0])), (w9, .inl (w16, 8, .inl (fun _ => 0))), (w10, .inl (w17, 8, .inl (fun _ => 0))), (w11, .inl (w18, 8, .inl (fun _ => 0))), (w12, .inl (w19, 8, .inl (fun _ => 0))), (w13, .inl (w20, 8, .inl (fun _ => 0))), (w14, .inl (w21, 8, .inl (fun _ => 0))), (w15, .inl (w22, 8, .inl (fun _ => 0))), (w2, .inr (2, [.ref w23, .ref w24, .ref w25, .int 0, .int (-1), .int (-1)])), (w3, .inr (4, [.ref w26, .ref w27, .ref w28, .int 0, .int 0, .int 0, .int 45])), (w26, .inr (3, [.ref w1, .ref w2, .ref w29, .ref w30, .ref w31, .ref w32, .ref w33, .int 0, .int 0])), (w52, .inl (w53, 1, .inr (.inl (fun _ => 0)))), (w54, .inl (w55, 1, .inr (.inr (.inr (.inl (fun _ => 0)))))), (w34, .inr (12, [.int 1, .ref w35, .ref w36, .ref w37, .int (-1), .int (-1), .int 0, .ref w38, .ref w39, .ref w40, .ref w41, .ref w42, .ref w43, .ref w44, .ref w45, .ref w46, .int 0, .int 0, .null, .int 0, .int 45, .ref w47, .ref w48, .ref w49, .ref w50, .ref w51]))] H1 := ro_keep hP hk1
    generalize H1 = H at hP hS ⊢
    refine W.widen (k := 92) (n := 4908) (Nat.le_of_ble_eq_true rfl) (Nat.le_of_ble_eq_true rfl) ?_
    have hw : r_3 = 1 := hw
    subst hw
    refine lv_iload hx hb dL_law_626 (lv_at hl 1 rfl) ?_
    refine lv_icmp_eq (tgt := 633) hx hb dL_law_628 (by decide) (fun c_4 => ?_) (fun c_4 => ?_)
    · refine lv_iload hx hb dL_law_633 (lv_at hl 1 rfl) ?_
      refine lv_if_ne (tgt := 650) hx hb dL_law_635 (by decide) (fun c_5 => ?_) (fun c_5 => ?_)
      · refine lv_goto (tgt := 2585) hx hb dL_law_650 (by decide) ?_
        refine W.widen (k := 600002) (n := 7302232) (Nat.le_of_ble_eq_true rfl) (Nat.le_of_ble_eq_true rfl) ?_
        exact law_end C0 hA hA2 hS (lv_sub hl [7, 2] rfl)
      · exact absurd c_5 (by decide)
    · exact absurd c_4 (by decide)
