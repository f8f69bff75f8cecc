theorem q_1631 : (Cond.instantiable "java/lang/Integer" 1) ∈ tw := tw_in (i := 1631) (by decide +kernel) (by decide +kernel)
theorem dL_law_38 : decode cL_law 38 = .ok (.aload_n 0, 1) := by decide +kernel
theorem dL_law_39 : decode cL_law 39 = .ok (.iload 5, 2) := by decide +kernel
theorem dL_law_41 : decode cL_law 41 = .ok (.iaload, 1) := by decide +kernel
theorem dL_law_42 : decode cL_law 42 = .ok (.bipush 63, 2) := by decide +kernel
theorem dL_law_44 : decode cL_law 44 = .ok (.iand, 1) := by decide +kernel
theorem dL_law_45 : decode cL_law 45 = .ok (.tableswitch 2540 0 38 #[171, 341, 409, 465, 540, 608, 676, 720, 795, 839, 902, 970, 1038, 1113, 1169, 1213, 1264, 1308, 1371, 1429, 1485, 1541, 1597, 1660, 1723, 1736, 1792, 1848, 1928, 1996, 2040, 2122, 2190, 2246, 2314, 2382, 2396, 2462, 2527], 171) := by decide +kernel
set_option maxHeartbeats 8000000 in
set_option maxRecDepth 100000 in
/-- from the entry, for every script of at most 7 ints, the law comes to its end with true -/
theorem whole_start {p : Program} {e : Env} {s : State} {m : MethodId} {below : List Frame} {meth : Method} {c : Code} (l : Launch) (hflags : l.flags = flags0) {b L : Nat} {xs : Nat → Int32} (hL : L ≤ 7) (C0 : lw_At p s m meth c b L xs) : W p l e room_1 s m #[Value.ref b] below meth c s.heap [] 0 0 (lw_Z below #[Value.ref b] s) (entryFrame m ([Value.ref b] : List Value).toArray 9) := by
  obtain ⟨hx, hb, hr, hml, hown0, hts, hX, hbl, hlocks, hgv⟩ := id C0
  have hq : ∀ w ∈ tw, w.before #[Value.ref b] s = true := tw_of hts
  have hown : s.vm.findClass RL = some m.cls := hown0
  have hst : l.stackTraces = false := by unfold Launch.stackTraces; rw [hflags]; decide
  obtain ⟨tE, adK, adV, ham0⟩ := am_start hts hgv
  obtain ⟨A, hAe⟩ : ∃ A : Nat → Prop, A = fun q : Nat => s.heap.size ≤ q := ⟨_, rfl⟩
  have hA : ∀ q : Nat, s.heap.size ≤ q → A q := fun q h => by rw [hAe]; exact h
  have hA2 : ∀ q : Nat, A q → s.heap.size ≤ q := fun q h => by rw [hAe] at h; exact h
  have ham : am tE adK adV A s s.heap := by rw [hAe]; exact ham0
  have hbA : ¬ A b := fun h => Nat.not_le.mpr hbl (hA2 b h)
  obtain ⟨c0, j0, n0⟩ := u_known (C := RX0) (T := TX0) (N := 4) (n := 4) hq i_X0 (hq _ q_272)
  obtain ⟨c1, j1, n1⟩ := u_known (C := RX1) (T := TX1) (N := 2) (n := 2) hq i_X1 (hq _ q_196)
  obtain ⟨c2, j2, n2⟩ := u_known (C := RX2) (T := TX2) (N := 6) (n := 6) hq i_X2 (hq _ q_84)
  obtain ⟨c3, j3, n3⟩ := u_known (C := RX3) (T := TX3) (N := 9) (n := 9) hq i_X3 (hq _ q_118)
  obtain ⟨c4, j4, n4⟩ := u_known (C := RX4) (T := TX4) (N := 7) (n := 7) hq i_X4 (hq _ q_112)
  obtain ⟨c5, j5, n5⟩ := u_known (C := RX5) (T := TX5) (N := 2) (n := 2) hq i_X5 (hq _ q_238)
  obtain ⟨c6, j6, n6⟩ := u_known (C := RX6) (T := TX6) (N := 11) (n := 11) hq i_X6 (hq _ q_154)
  obtain ⟨c7, j7, n7⟩ := u_known (C := RX7) (T := TX7) (N := 8) (n := 8) hq i_X7 (hq _ q_48)
  obtain ⟨c8, j8, n8⟩ := u_known (C := RX8) (T := TX8) (N := 4) (n := 4) hq i_X8 (hq _ q_252)
  obtain ⟨c9, j9, n9⟩ := u_known (C := RX9) (T := TX9) (N := 9) (n := 9) hq i_X9 (hq _ q_292)
  obtain ⟨c10, j10, n10⟩ := u_known (C := RX10) (T := TX10) (N := 8) (n := 8) hq i_X10 (hq _ q_40)
  obtain ⟨c11, j11, n11⟩ := u_known (C := RX11) (T := TX11) (N := 7) (n := 7) hq i_X11 (hq _ q_1490)
  obtain ⟨c12, j12, n12⟩ := u_known (C := RX12) (T := TX12) (N := 26) (n := 26) hq i_X12 (hq _ q_1266)
  obtain ⟨c13, j13, n13⟩ := u_known (C := RJ6) (T := TJ6) (N := 1) (n := 1) hq i_J6 (hq _ q_1631)
  obtain ⟨c14, j14, n14⟩ := u_known (C := RJx4a65c) (T := TJx4a65c) (N := 3) (n := 3) hq i_Jx4a65c (hq _ q_1272)
  obtain ⟨dC, dI, hKc⟩ : ∃ (dC : Nat → ClassId) (dI : Nat → Nat → Nat), ∀ (k : Nat) (q : vw_C), cls[k]? = some q → u_Kn s q.1 q.2.1 q.2.2 (dC k) (dI k) := by
    refine ⟨fun k => if k = 0 then c0 else if k = 1 then c1 else if k = 2 then c2 else if k = 3 then c3 else if k = 4 then c4 else if k = 5 then c5 else if k = 6 then c6 else if k = 7 then c7 else if k = 8 then c8 else if k = 9 then c9 else if k = 10 then c10 else if k = 11 then c11 else if k = 12 then c12 else if k = 13 then c13 else c14, fun k => if k = 0 then j0 else if k = 1 then j1 else if k = 2 then j2 else if k = 3 then j3 else if k = 4 then j4 else if k = 5 then j5 else if k = 6 then j6 else if k = 7 then j7 else if k = 8 then j8 else if k = 9 then j9 else if k = 10 then j10 else if k = 11 then j11 else if k = 12 then j12 else if k = 13 then j13 else j14, ?_⟩
    intro k q hq9
    match k, hq9 with
    | 0, hq9 => cases hq9; exact n0
    | 1, hq9 => cases hq9; exact n1
    | 2, hq9 => cases hq9; exact n2
    | 3, hq9 => cases hq9; exact n3
    | 4, hq9 => cases hq9; exact n4
    | 5, hq9 => cases hq9; exact n5
    | 6, hq9 => cases hq9; exact n6
    | 7, hq9 => cases hq9; exact n7
    | 8, hq9 => cases hq9; exact n8
    | 9, hq9 => cases hq9; exact n9
    | 10, hq9 => cases hq9; exact n10
    | 11, hq9 => cases hq9; exact n11
    | 12, hq9 => cases hq9; exact n12
    | 13, hq9 => cases hq9; exact n13
    | 14, hq9 => cases hq9; exact n14
    | k + 15, hq9 => simp [cls] at hq9
  have hS : va_S A s.heap s.heap [] := va_S.rf
  have hK : va_K (dC, dI) cls [] s := ⟨hKc, fun k q h => by simp at h⟩
  have hP : va_P (dC, dI) cls [] s.heap := fun k q h => by simp at h
  have hD : va_D A [] := ⟨fun i j p q h => by simp at h, fun k q h => by simp at h⟩
  have hl := lv_entry ([.ref b]) (n := 9) (Nat.le_of_ble_eq_true rfl)
  rw [lg_entry_eq]
  generalize (lg_sl ([.ref b]) ++ List.replicate (9 - (lg_sl ([.ref b])).length) Slot.unset).toArray = ls at hl ⊢
  have hl : lv_has ls 9 [(0, .ref b)] := hl
  refine va_new (ci := 10) (fs := [.null, .null, .null, .null, .null, .null, .null, .null]) (C := RX10) (T := TX10) (N := 8) hx hb hq i_X10 tyX10 tyX10_ok hown (hq _ q_39) (hq _ q_40) (hq _ q_1) hK hP hD hS hA rfl (fun j hj => by rcases (show j = 0 ∨ j = 1 ∨ j = 2 ∨ j = 3 ∨ j = 4 ∨ j = 5 ∨ j = 6 ∨ j = 7 by omega) with rfl | rfl | rfl | rfl | rfl | rfl | rfl | rfl <;> rfl) (Nat.le_of_ble_eq_true rfl) (Nat.le_of_ble_eq_true rfl) dL_law_0 (fun a_1 H hP hD hS => ?_)
  have hP : va_P (dC, dI) cls [(a_1, .inr (10, [.null, .null, .null, .null, .null, .null, .null, .null]))] H := hP
  have hD : va_D A [(a_1, .inr (10, [.null, .null, .null, .null, .null, .null, .null, .null]))] := hD
  refine W.widen (k := 1) (n := 8) (Nat.le_of_ble_eq_true rfl) (Nat.le_of_ble_eq_true rfl) ?_
  refine lv_dup hx hb dL_law_3 rfl ?_
  have hPc := hP.sub (ws' := [(a_1, .inr (10, [.null, .null, .null, .null, .null, .null, .null, .null]))]) [0] rfl
  have hKc := hK.sub (tys' := []) [] rfl
  have hDc := hD.sub (ws' := [(a_1, .inr (10, [.null, .null, .null, .null, .null, .null, .null, .null]))]) [0] (by decide) rfl
  have hFc := va_free (wc := [(a_1, .inr (10, [.null, .null, .null, .null, .null, .null, .null, .null]))]) hD hS hA [0] rfl
  refine va_callv (va_runI (As := []) (rest := [.ref a_1]) ⟨hx, hb, hml, hown, hq⟩ (c_X_init l hst tE adK adV dC dI a_1 H.size) (tcI 0 hq q_43 q_1 q_41 q_42 rfl rfl rfl (by decide +kernel) ⟨Nat.le_of_ble_eq_true rfl, Nat.le_of_ble_eq_true rfl⟩) (pre.S (pre.of hPc hDc hKc ham hS hFc)) rfl rfl hl.1 rfl (lv_room (Nat.le_of_ble_eq_true rfl)) dL_law_4 ⟨Nat.le_of_ble_eq_true rfl, Nat.le_of_ble_eq_true rfl⟩) hS (fun q _ h => hFc q h) hFc (fun u t H1 locs ht hvm hw hB hz1 hk1 hS => ?_)
  obtain ⟨r0_3, d0_4, g0_5, g1_6, y1_7, s1_8, l1_9, w1_10, a1_11, a2_12, a3_13, a4_14, a5_15, a6_16, a7_17, k1_18, k2_19, k3_20, k4_21, k5_22, k6_23, k7_24, b1_25, b2_26, b3_27, f0_28, n0_29, y0_30, z1_31, z2_32, z3_33, z4_34, z5_35, hP1, hK1, hD1⟩ := hB
  rw [ht] at hP1
  have hK1 := va_K.moved hvm.symm hK1
  obtain ⟨hP, hD⟩ := va_join (wr := []) (w1 := [(a_1, .inr (10, [.ref r0_3, .ref d0_4, .ref g0_5, .ref g1_6, .ref y1_7, .ref s1_8, .ref l1_9, .ref w1_10])), (r0_3, .inr (7, [.ref a1_11, .ref a2_12, .ref a3_13, .ref a4_14, .ref a5_15, .ref a6_16, .ref a7_17, .int 0])), (a1_11, .inl (k1_18, 8, .inl (fun _ => 0))), (a2_12, .inl (k2_19, 8, .inl (fun _ => 0))), (a3_13, .inl (k3_20, 8, .inl (fun _ => 0))), (a4_14, .inl (k4_21, 8, .inl (fun _ => 0))), (a5_15, .inl (k5_22, 8, .inl (fun _ => 0))), (a6_16, .inl (k6_23, 8, .inl (fun _ => 0))), (a7_17, .inl (k7_24, 8, .inl (fun _ => 0))), (d0_4, .inr (2, [.ref b1_25, .ref b2_26, .ref b3_27, .int 0, .int (-1), .int (-1)])), (g0_5, .inr (4, [.ref f0_28, .ref n0_29, .ref y0_30, .int 0, .int 0, .int 0, .int 45])), (f0_28, .inr (3, [.ref r0_3, .ref d0_4, .ref z1_31, .ref z2_32, .ref z3_33, .ref z4_34, .ref z5_35, .int 0, .int 0]))]) (wc := [(a_1, .inr (10, [.null, .null, .null, .null, .null, .null, .null, .null]))]) hP hD [0] [] rfl rfl (by decide) (by decide) hk1 hFc hP1 hD1
  have hK := (hK.sub (tys' := []) [] rfl).app hK1
  generalize H1 = H at hP hS ⊢
  have hP : va_P (dC, dI) cls [(a_1, .inr (10, [.ref r0_3, .ref d0_4, .ref g0_5, .ref g1_6, .ref y1_7, .ref s1_8, .ref l1_9, .ref w1_10])), (r0_3, .inr (7, [.ref a1_11, .ref a2_12, .ref a3_13, .ref a4_14, .ref a5_15, .ref a6_16, .ref a7_17, .int 0])), (a1_11, .inl (k1_18, 8, .inl (fun _ => 0))), (a2_12, .inl (k2_19, 8, .inl (fun _ => 0))), (a3_13, .inl (k3_20, 8, .inl (fun _ => 0))), (a4_14, .inl (k4_21, 8, .inl (fun _ => 0))), (a5_15, .inl (k5_22, 8, .inl (fun _ => 0))), (a6_16, .inl (k6_23, 8, .inl (fun _ => 0))), (a7_17, .inl (k7_24, 8, .inl (fun _ => 0))), (d0_4, .inr (2, [.ref b1_25, .ref b2_26, .ref b3_27, .int 0, .int (-1), .int (-1)])), (g0_5, .inr (4, [.ref f0_28, .ref n0_29, .ref y0_30, .int 0, .int 0, .int 0, .int 45])), (f0_28, .inr (3, [.ref r0_3, .ref d0_4, .ref z1_31, .ref z2_32, .ref z3_33, .ref z4_34, .ref z5_35, .int 0, .int 0]))] H := hP
  have hD : va_D A [(a_1, .inr (10, [.ref r0_3, .ref d0_4, .ref g0_5, .ref g1_6, .ref y1_7, .ref s1_8, .ref l1_9, .ref w1_10])), (r0_3, .inr (7, [.ref a1_11, .ref a2_12, .ref a3_13, .ref a4_14, .ref a5_15, .ref a6_16, .ref a7_17, .int 0])), (a1_11, .inl (k1_18, 8, .inl (fun _ => 0))), (a2_12, .inl (k2_19, 8, .inl (fun _ => 0))), (a3_13, .inl (k3_20, 8, .inl (fun _ => 0))), (a4_14, .inl (k4_21, 8, .inl (fun _ => 0))), (a5_15, .inl (k5_22, 8, .inl (fun _ => 0))), (a6_16, .inl (k6_23, 8, .inl (fun _ => 0))), (a7_17, .inl (k7_24, 8, .inl (fun _ => 0))), (d0_4, .inr (2, [.ref b1_25, .ref b2_26, .ref b3_27, .int 0, .int (-1), .int (-1)])), (g0_5, .inr (4, [.ref f0_28, .ref n0_29, .ref y0_30, .int 0, .int 0, .int 0, .int 45])), (f0_28, .inr (3, [.ref r0_3, .ref d0_4, .ref z1_31, .ref z2_32, .ref z3_33, .ref z4_34, .ref z5_35, .int 0, .int 0]))] := hD
  have hK : va_K (dC, dI) cls [(k1_18, .char), (k2_19, .char), (k3_20, .int), (k4_21, .boolean), (k5_22, .boolean), (k6_23, .boolean), (k7_24, .int)] s := hK
  refine W.widen (k := 71) (n := 4783) (Nat.le_of_ble_eq_true rfl) (Nat.le_of_ble_eq_true rfl) ?_
  refine lv_astore_n (lv' := [(1, .ref a_1), (0, .ref b)]) hx hb dL_law_7 rfl hl (by decide) rfl (fun ls hl => ?_)
  refine va_new (ci := 12) (fs := [.int 0, .null, .null, .null, .int 0, .int 0, .int 0, .null, .null, .null, .null, .null, .null, .null, .null, .null, .int 0, .int 0, .null, .int 0, .int 0, .null, .null, .null, .null, .null]) (C := RX12) (T := TX12) (N := 26) hx hb hq i_X12 tyX12 tyX12_ok hown (hq _ q_1265) (hq _ q_1266) (hq _ q_12) hK hP hD hS hA rfl (fun j hj => by rcases (show j = 0 ∨ j = 1 ∨ j = 2 ∨ j = 3 ∨ j = 4 ∨ j = 5 ∨ j = 6 ∨ j = 7 ∨ j = 8 ∨ j = 9 ∨ j = 10 ∨ j = 11 ∨ j = 12 ∨ j = 13 ∨ j = 14 ∨ j = 15 ∨ j = 16 ∨ j = 17 ∨ j = 18 ∨ j = 19 ∨ j = 20 ∨ j = 21 ∨ j = 22 ∨ j = 23 ∨ j = 24 ∨ j = 25 by omega) with rfl | rfl | rfl | rfl | rfl | rfl | rfl | rfl | rfl | rfl | rfl | rfl | rfl | rfl | rfl | rfl | rfl | rfl | rfl | rfl | rfl | rfl | rfl | rfl | rfl | rfl <;> rfl) (Nat.le_of_ble_eq_true rfl) (Nat.le_of_ble_eq_true rfl) dL_law_8 (fun a_36 H hP hD hS => ?_)
  have hP : va_P (dC, dI) cls [(a_1, .inr (10, [.ref r0_3, .ref d0_4, .ref g0_5, .ref g1_6, .ref y1_7, .ref s1_8, .ref l1_9, .ref w1_10])), (r0_3, .inr (7, [.ref a1_11, .ref a2_12, .ref a3_13, .ref a4_14, .ref a5_15, .ref a6_16, .ref a7_17, .int 0])), (a1_11, .inl (k1_18, 8, .inl (fun _ => 0))), (a2_12, .inl (k2_19, 8, .inl (fun _ => 0))), (a3_13, .inl (k3_20, 8, .inl (fun _ => 0))), (a4_14, .inl (k4_21, 8, .inl (fun _ => 0))), (a5_15, .inl (k5_22, 8, .inl (fun _ => 0))), (a6_16, .inl (k6_23, 8, .inl (fun _ => 0))), (a7_17, .inl (k7_24, 8, .inl (fun _ => 0))), (d0_4, .inr (2, [.ref b1_25, .ref b2_26, .ref b3_27, .int 0, .int (-1), .int (-1)])), (g0_5, .inr (4, [.ref f0_28, .ref n0_29, .ref y0_30, .int 0, .int 0, .int 0, .int 45])), (f0_28, .inr (3, [.ref r0_3, .ref d0_4, .ref z1_31, .ref z2_32, .ref z3_33, .ref z4_34, .ref z5_35, .int 0, .int 0])), (a_36, .inr (12, [.int 0, .null, .null, .null, .int 0, .int 0, .int 0, .null, .null, .null, .null, .null, .null, .null, .null, .null, .int 0, .int 0, .null, .int 0, .int 0, .null, .null, .null, .null, .null]))] H := hP
  have hD : va_D A [(a_1, .inr (10, [.ref r0_3, .ref d0_4, .ref g0_5, .ref g1_6, .ref y1_7, .ref s1_8, .ref l1_9, .ref w1_10])), (r0_3, .inr (7, [.ref a1_11, .ref a2_12, .ref a3_13, .ref a4_14, .ref a5_15, .ref a6_16, .ref a7_17, .int 0])), (a1_11, .inl (k1_18, 8, .inl (fun _ => 0))), (a2_12, .inl (k2_19, 8, .inl (fun _ => 0))), (a3_13, .inl (k3_20, 8, .inl (fun _ => 0))), (a4_14, .inl (k4_21, 8, .inl (fun _ => 0))), (a5_15, .inl (k5_22, 8, .inl (fun _ => 0))), (a6_16, .inl (k6_23, 8, .inl (fun _ => 0))), (a7_17, .inl (k7_24, 8, .inl (fun _ => 0))), (d0_4, .inr (2, [.ref b1_25, .ref b2_26, .ref b3_27, .int 0, .int (-1), .int (-1)])), (g0_5, .inr (4, [.ref f0_28, .ref n0_29, .ref y0_30, .int 0, .int 0, .int 0, .int 45])), (f0_28, .inr (3, [.ref r0_3, .ref d0_4, .ref z1_31, .ref z2_32, .ref z3_33, .ref z4_34, .ref z5_35, .int 0, .int 0])), (a_36, .inr (12, [.int 0, .null, .null, .null, .int 0, .int 0, .int 0, .null, .null, .null, .null, .null, .null, .null, .null, .null, .int 0, .int 0, .null, .int 0, .int 0, .null, .null, .null, .null, .null]))] := hD
  refine W.widen (k := 72) (n := 4809) (Nat.le_of_ble_eq_true rfl) (Nat.le_of_ble_eq_true rfl) ?_
  refine lv_dup hx hb dL_law_11 rfl ?_
  have hPc := hP.sub (ws' := [(a_36, .inr (12, [.int 0, .null, .null, .null, .int 0, .int 0, .int 0, .null, .null, .null, .null, .null, .null, .null, .null, .null, .int 0, .int 0, .null, .int 0, .int 0, .null, .null, .null, .null, .null]))]) [12] rfl
  have hKc := hK.sub (tys' := []) [] rfl
  have hDc := hD.sub (ws' := [(a_36, .inr (12, [.int 0, .null, .null, .null, .int 0, .int 0, .int 0, .null, .null, .null, .null, .null, .null, .null, .null, .null, .int 0, .int 0, .null, .int 0, .int 0, .null, .null, .null, .null, .null]))]) [12] (by decide) rfl
  have hFc := va_free (wc := [(a_36, .inr (12, [.int 0, .null, .null, .null, .int 0, .int 0, .int 0, .null, .null, .null, .null, .null, .null, .null, .null, .null, .int 0, .int 0, .null, .int 0, .int 0, .null, .null, .null, .null, .null]))]) hD hS hA [12] rfl
  refine va_callv (va_runI (As := []) (rest := [.ref a_36]) ⟨hx, hb, hml, hown, hq⟩ (c_M_init l hst tE adK adV dC dI a_36 H.size) (tcI 0 hq q_1269 q_12 q_1267 q_1268 rfl rfl rfl (by decide +kernel) ⟨Nat.le_of_ble_eq_true rfl, Nat.le_of_ble_eq_true rfl⟩) (pre.S (pre.of hPc hDc hKc ham hS hFc)) rfl rfl hl.1 rfl (lv_room (Nat.le_of_ble_eq_true rfl)) dL_law_12 ⟨Nat.le_of_ble_eq_true rfl, Nat.le_of_ble_eq_true rfl⟩) hS (fun q _ h => hFc q h) hFc (fun u t H1 locs ht hvm hw hB hz1 hk1 hS => ?_)
  obtain ⟨lr_38, ld_39, o1_40, o2_41, o3_42, o4_43, o5_44, o6_45, o7_46, o8_47, o9_48, o10_49, t1_50, t2_51, t3_52, t4_53, t5_54, hP1, hK1, hD1⟩ := hB
  rw [ht] at hP1
  have hK1 := va_K.moved hvm.symm hK1
  obtain ⟨hP, hD⟩ := va_join (wr := [(a_1, .inr (10, [.ref r0_3, .ref d0_4, .ref g0_5, .ref g1_6, .ref y1_7, .ref s1_8, .ref l1_9, .ref w1_10])), (r0_3, .inr (7, [.ref a1_11, .ref a2_12, .ref a3_13, .ref a4_14, .ref a5_15, .ref a6_16, .ref a7_17, .int 0])), (a1_11, .inl (k1_18, 8, .inl (fun _ => 0))), (a2_12, .inl (k2_19, 8, .inl (fun _ => 0))), (a3_13, .inl (k3_20, 8, .inl (fun _ => 0))), (a4_14, .inl (k4_21, 8, .inl (fun _ => 0))), (a5_15, .inl (k5_22, 8, .inl (fun _ => 0))), (a6_16, .inl (k6_23, 8, .inl (fun _ => 0))), (a7_17, .inl (k7_24, 8, .inl (fun _ => 0))), (d0_4, .inr (2, [.ref b1_25, .ref b2_26, .ref b3_27, .int 0, .int (-1), .int (-1)])), (g0_5, .inr (4, [.ref f0_28, .ref n0_29, .ref y0_30, .int 0, .int 0, .int 0, .int 45])), (f0_28, .inr (3, [.ref r0_3, .ref d0_4, .ref z1_31, .ref z2_32, .ref z3_33, .ref z4_34, .ref z5_35, .int 0, .int 0]))]) (w1 := [(a_36, .inr (12, [.int 0, .ref lr_38, .ref ld_39, .ref o1_40, .int (-1), .int (-1), .int 0, .ref o2_41, .ref o3_42, .ref o4_43, .ref o5_44, .ref o6_45, .ref o7_46, .ref o8_47, .ref o9_48, .ref o10_49, .int 0, .int 0, .null, .int 0, .int 45, .ref t1_50, .ref t2_51, .ref t3_52, .ref t4_53, .ref t5_54])), (lr_38, .inr (14, [.int 0, .ref tE, .int 0])), (ld_39, .inr (14, [.int 0, .ref tE, .int 0]))]) (wc := [(a_36, .inr (12, [.int 0, .null, .null, .null, .int 0, .int 0, .int 0, .null, .null, .null, .null, .null, .null, .null, .null, .null, .int 0, .int 0, .null, .int 0, .int 0, .null, .null, .null, .null, .null]))]) hP hD [12] [0, 1, 2, 3, 4, 5, 6, 7, 8, 9, 10, 11] rfl rfl (by decide) (by decide) hk1 hFc hP1 hD1
  have hK := (hK.sub (tys' := [(k1_18, .char), (k2_19, .char), (k3_20, .int), (k4_21, .boolean), (k5_22, .boolean), (k6_23, .boolean), (k7_24, .int)]) [0, 1, 2, 3, 4, 5, 6] rfl).app hK1
  generalize H1 = H at hP hS ⊢
  have hP : va_P (dC, dI) cls [(a_1, .inr (10, [.ref r0_3, .ref d0_4, .ref g0_5, .ref g1_6, .ref y1_7, .ref s1_8, .ref l1_9, .ref w1_10])), (r0_3, .inr (7, [.ref a1_11, .ref a2_12, .ref a3_13, .ref a4_14, .ref a5_15, .ref a6_16, .ref a7_17, .int 0])), (a1_11, .inl (k1_18, 8, .inl (fun _ => 0))), (a2_12, .inl (k2_19, 8, .inl (fun _ => 0))), (a3_13, .inl (k3_20, 8, .inl (fun _ => 0))), (a4_14, .inl (k4_21, 8, .inl (fun _ => 0))), (a5_15, .inl (k5_22, 8, .inl (fun _ => 0))), (a6_16, .inl (k6_23, 8, .inl (fun _ => 0))), (a7_17, .inl (k7_24, 8, .inl (fun _ => 0))), (d0_4, .inr (2, [.ref b1_25, .ref b2_26, .ref b3_27, .int 0, .int (-1), .int (-1)])), (g0_5, .inr (4, [.ref f0_28, .ref n0_29, .ref y0_30, .int 0, .int 0, .int 0, .int 45])), (f0_28, .inr (3, [.ref r0_3, .ref d0_4, .ref z1_31, .ref z2_32, .ref z3_33, .ref z4_34, .ref z5_35, .int 0, .int 0])), (a_36, .inr (12, [.int 0, .ref lr_38, .ref ld_39, .ref o1_40, .int (-1), .int (-1), .int 0, .ref o2_41, .ref o3_42, .ref o4_43, .ref o5_44, .ref o6_45, .ref o7_46, .ref o8_47, .ref o9_48, .ref o10_49, .int 0, .int 0, .null, .int 0, .int 45, .ref t1_50, .ref t2_51, .ref t3_52, .ref t4_53, .ref t5_54])), (lr_38, .inr (14, [.int 0, .ref tE, .int 0])), (ld_39, .inr (14, [.int 0, .ref tE, .int 0]))] H := hP
  have hD : va_D A [(a_1, .inr (10, [.ref r0_3, .ref d0_4, .ref g0_5, .ref g1_6, .ref y1_7, .ref s1_8, .ref l1_9, .ref w1_10])), (r0_3, .inr (7, [.ref a1_11, .ref a2_12, .ref a3_13, .ref a4_14, .ref a5_15, .ref a6_16, .ref a7_17, .int 0])), (a1_11, .inl (k1_18, 8, .inl (fun _ => 0))), (a2_12, .inl (k2_19, 8, .inl (fun _ => 0))), (a3_13, .inl (k3_20, 8, .inl (fun _ => 0))), (a4_14, .inl (k4_21, 8, .inl (fun _ => 0))), (a5_15, .inl (k5_22, 8, .inl (fun _ => 0))), (a6_16, .inl (k6_23, 8, .inl (fun _ => 0))), (a7_17, .inl (k7_24, 8, .inl (fun _ => 0))), (d0_4, .inr (2, [.ref b1_25, .ref b2_26, .ref b3_27, .int 0, .int (-1), .int (-1)])), (g0_5, .inr (4, [.ref f0_28, .ref n0_29, .ref y0_30, .int 0, .int 0, .int 0, .int 45])), (f0_28, .inr (3, [.ref r0_3, .ref d0_4, .ref z1_31, .ref z2_32, .ref z3_33, .ref z4_34, .ref z5_35, .int 0, .int 0])), (a_36, .inr (12, [.int 0, .ref lr_38, .ref ld_39, .ref o1_40, .int (-1), .int (-1), .int 0, .ref o2_41, .ref o3_42, .ref o4_43, .ref o5_44, .ref o6_45, .ref o7_46, .ref o8_47, .ref o9_48, .ref o10_49, .int 0, .int 0, .null, .int 0, .int 45, .ref t1_50, .ref t2_51, .ref t3_52, .ref t4_53, .ref t5_54])), (lr_38, .inr (14, [.int 0, .ref tE, .int 0])), (ld_39, .inr (14, [.int 0, .ref tE, .int 0]))] := hD
  have hK : va_K (dC, dI) cls [(k1_18, .char), (k2_19, .char), (k3_20, .int), (k4_21, .boolean), (k5_22, .boolean), (k6_23, .boolean), (k7_24, .int)] s := hK
  refine W.widen (k := 89) (n := 4900) (Nat.le_of_ble_eq_true rfl) (Nat.le_of_ble_eq_true rfl) ?_
  refine lv_astore_n (lv' := [(2, .ref a_36), (1, .ref a_1), (0, .ref b)]) hx hb dL_law_15 rfl hl (by decide) rfl (fun ls hl => ?_)
  refine lv_iconst (v := 1) hx hb dL_law_16 (by decide) ?_
  refine va_newa (atype := .long) (a0 := (1, .inr (.inl (fun _ => 0)))) hx hb (hq _ q_1996) rfl hK hP hD hS hA (fun _ => rfl) (by decide) (by decide) (Nat.le_of_ble_eq_true rfl) (Nat.le_of_ble_eq_true rfl) (Nat.le_of_ble_eq_true rfl) dL_law_17 (fun a_55 cA_56 H hK hP hD hS => ?_)
  have hP : va_P (dC, dI) cls [(a_1, .inr (10, [.ref r0_3, .ref d0_4, .ref g0_5, .ref g1_6, .ref y1_7, .ref s1_8, .ref l1_9, .ref w1_10])), (r0_3, .inr (7, [.ref a1_11, .ref a2_12, .ref a3_13, .ref a4_14, .ref a5_15, .ref a6_16, .ref a7_17, .int 0])), (a1_11, .inl (k1_18, 8, .inl (fun _ => 0))), (a2_12, .inl (k2_19, 8, .inl (fun _ => 0))), (a3_13, .inl (k3_20, 8, .inl (fun _ => 0))), (a4_14, .inl (k4_21, 8, .inl (fun _ => 0))), (a5_15, .inl (k5_22, 8, .inl (fun _ => 0))), (a6_16, .inl (k6_23, 8, .inl (fun _ => 0))), (a7_17, .inl (k7_24, 8, .inl (fun _ => 0))), (d0_4, .inr (2, [.ref b1_25, .ref b2_26, .ref b3_27, .int 0, .int (-1), .int (-1)])), (g0_5, .inr (4, [.ref f0_28, .ref n0_29, .ref y0_30, .int 0, .int 0, .int 0, .int 45])), (f0_28, .inr (3, [.ref r0_3, .ref d0_4, .ref z1_31, .ref z2_32, .ref z3_33, .ref z4_34, .ref z5_35, .int 0, .int 0])), (a_36, .inr (12, [.int 0, .ref lr_38, .ref ld_39, .ref o1_40, .int (-1), .int (-1), .int 0, .ref o2_41, .ref o3_42, .ref o4_43, .ref o5_44, .ref o6_45, .ref o7_46, .ref o8_47, .ref o9_48, .ref o10_49, .int 0, .int 0, .null, .int 0, .int 45, .ref t1_50, .ref t2_51, .ref t3_52, .ref t4_53, .ref t5_54])), (lr_38, .inr (14, [.int 0, .ref tE, .int 0])), (ld_39, .inr (14, [.int 0, .ref tE, .int 0])), (a_55, .inl (cA_56, 1, .inr (.inl (fun _ => 0))))] H := hP
  have hD : va_D A [(a_1, .inr (10, [.ref r0_3, .ref d0_4, .ref g0_5, .ref g1_6, .ref y1_7, .ref s1_8, .ref l1_9, .ref w1_10])), (r0_3, .inr (7, [.ref a1_11, .ref a2_12, .ref a3_13, .ref a4_14, .ref a5_15, .ref a6_16, .ref a7_17, .int 0])), (a1_11, .inl (k1_18, 8, .inl (fun _ => 0))), (a2_12, .inl (k2_19, 8, .inl (fun _ => 0))), (a3_13, .inl (k3_20, 8, .inl (fun _ => 0))), (a4_14, .inl (k4_21, 8, .inl (fun _ => 0))), (a5_15, .inl (k5_22, 8, .inl (fun _ => 0))), (a6_16, .inl (k6_23, 8, .inl (fun _ => 0))), (a7_17, .inl (k7_24, 8, .inl (fun _ => 0))), (d0_4, .inr (2, [.ref b1_25, .ref b2_26, .ref b3_27, .int 0, .int (-1), .int (-1)])), (g0_5, .inr (4, [.ref f0_28, .ref n0_29, .ref y0_30, .int 0, .int 0, .int 0, .int 45])), (f0_28, .inr (3, [.ref r0_3, .ref d0_4, .ref z1_31, .ref z2_32, .ref z3_33, .ref z4_34, .ref z5_35, .int 0, .int 0])), (a_36, .inr (12, [.int 0, .ref lr_38, .ref ld_39, .ref o1_40, .int (-1), .int (-1), .int 0, .ref o2_41, .ref o3_42, .ref o4_43, .ref o5_44, .ref o6_45, .ref o7_46, .ref o8_47, .ref o9_48, .ref o10_49, .int 0, .int 0, .null, .int 0, .int 45, .ref t1_50, .ref t2_51, .ref t3_52, .ref t4_53, .ref t5_54])), (lr_38, .inr (14, [.int 0, .ref tE, .int 0])), (ld_39, .inr (14, [.int 0, .ref tE, .int 0])), (a_55, .inl (cA_56, 1, .inr (.inl (fun _ => 0))))] := hD
  have hK : va_K (dC, dI) cls [(k1_18, .char), (k2_19, .char), (k3_20, .int), (k4_21, .boolean), (k5_22, .boolean), (k6_23, .boolean), (k7_24, .int), (cA_56, .long)] s := hK
  refine W.widen (k := 90) (n := 4901) (Nat.le_of_ble_eq_true rfl) (Nat.le_of_ble_eq_true rfl) ?_
  refine lv_astore_n (lv' := [(3, .ref a_55), (2, .ref a_36), (1, .ref a_1), (0, .ref b)]) hx hb dL_law_19 rfl hl (by decide) rfl (fun ls hl => ?_)
  refine lv_iconst (v := 1) hx hb dL_law_20 (by decide) ?_
  refine va_newa (atype := .double) (a0 := (1, .inr (.inr (.inr (.inl (fun _ => 0)))))) hx hb (hq _ q_1997) rfl hK hP hD hS hA (fun _ => rfl) (by decide) (by decide) (Nat.le_of_ble_eq_true rfl) (Nat.le_of_ble_eq_true rfl) (Nat.le_of_ble_eq_true rfl) dL_law_21 (fun a_57 cA_58 H hK hP hD hS => ?_)
  have hP : va_P (dC, dI) cls [(a_1, .inr (10, [.ref r0_3, .ref d0_4, .ref g0_5, .ref g1_6, .ref y1_7, .ref s1_8, .ref l1_9, .ref w1_10])), (r0_3, .inr (7, [.ref a1_11, .ref a2_12, .ref a3_13, .ref a4_14, .ref a5_15, .ref a6_16, .ref a7_17, .int 0])), (a1_11, .inl (k1_18, 8, .inl (fun _ => 0))), (a2_12, .inl (k2_19, 8, .inl (fun _ => 0))), (a3_13, .inl (k3_20, 8, .inl (fun _ => 0))), (a4_14, .inl (k4_21, 8, .inl (fun _ => 0))), (a5_15, .inl (k5_22, 8, .inl (fun _ => 0))), (a6_16, .inl (k6_23, 8, .inl (fun _ => 0))), (a7_17, .inl (k7_24, 8, .inl (fun _ => 0))), (d0_4, .inr (2, [.ref b1_25, .ref b2_26, .ref b3_27, .int 0, .int (-1), .int (-1)])), (g0_5, .inr (4, [.ref f0_28, .ref n0_29, .ref y0_30, .int 0, .int 0, .int 0, .int 45])), (f0_28, .inr (3, [.ref r0_3, .ref d0_4, .ref z1_31, .ref z2_32, .ref z3_33, .ref z4_34, .ref z5_35, .int 0, .int 0])), (a_36, .inr (12, [.int 0, .ref lr_38, .ref ld_39, .ref o1_40, .int (-1), .int (-1), .int 0, .ref o2_41, .ref o3_42, .ref o4_43, .ref o5_44, .ref o6_45, .ref o7_46, .ref o8_47, .ref o9_48, .ref o10_49, .int 0, .int 0, .null, .int 0, .int 45, .ref t1_50, .ref t2_51, .ref t3_52, .ref t4_53, .ref t5_54])), (lr_38, .inr (14, [.int 0, .ref tE, .int 0])), (ld_39, .inr (14, [.int 0, .ref tE, .int 0])), (a_55, .inl (cA_56, 1, .inr (.inl (fun _ => 0)))), (a_57, .inl (cA_58, 1, .inr (.inr (.inr (.inl (fun _ => 0))))))] H := hP
  have hD : va_D A [(a_1, .inr (10, [.ref r0_3, .ref d0_4, .ref g0_5, .ref g1_6, .ref y1_7, .ref s1_8, .ref l1_9, .ref w1_10])), (r0_3, .inr (7, [.ref a1_11, .ref a2_12, .ref a3_13, .ref a4_14, .ref a5_15, .ref a6_16, .ref a7_17, .int 0])), (a1_11, .inl (k1_18, 8, .inl (fun _ => 0))), (a2_12, .inl (k2_19, 8, .inl (fun _ => 0))), (a3_13, .inl (k3_20, 8, .inl (fun _ => 0))), (a4_14, .inl (k4_21, 8, .inl (fun _ => 0))), (a5_15, .inl (k5_22, 8, .inl (fun _ => 0))), (a6_16, .inl (k6_23, 8, .inl (fun _ => 0))), (a7_17, .inl (k7_24, 8, .inl (fun _ => 0))), (d0_4, .inr (2, [.ref b1_25, .ref b2_26, .ref b3_27, .int 0, .int (-1), .int (-1)])), (g0_5, .inr (4, [.ref f0_28, .ref n0_29, .ref y0_30, .int 0, .int 0, .int 0, .int 45])), (f0_28, .inr (3, [.ref r0_3, .ref d0_4, .ref z1_31, .ref z2_32, .ref z3_33, .ref z4_34, .ref z5_35, .int 0, .int 0])), (a_36, .inr (12, [.int 0, .ref lr_38, .ref ld_39, .ref o1_40, .int (-1), .int (-1), .int 0, .ref o2_41, .ref o3_42, .ref o4_43, .ref o5_44, .ref o6_45, .ref o7_46, .ref o8_47, .ref o9_48, .ref o10_49, .int 0, .int 0, .null, .int 0, .int 45, .ref t1_50, .ref t2_51, .ref t3_52, .ref t4_53, .ref t5_54])), (lr_38, .inr (14, [.int 0, .ref tE, .int 0])), (ld_39, .inr (14, [.int 0, .ref tE, .int 0])), (a_55, .inl (cA_56, 1, .inr (.inl (fun _ => 0)))), (a_57, .inl (cA_58, 1, .inr (.inr (.inr (.inl (fun _ => 0))))))] := hD
  have hK : va_K (dC, dI) cls [(k1_18, .char), (k2_19, .char), (k3_20, .int), (k4_21, .boolean), (k5_22, .boolean), (k6_23, .boolean), (k7_24, .int), (cA_56, .long), (cA_58, .double)] s := hK
  refine W.widen (k := 91) (n := 4902) (Nat.le_of_ble_eq_true rfl) (Nat.le_of_ble_eq_true rfl) ?_
  refine lv_astore (lv' := [(4, .ref a_57), (3, .ref a_55), (2, .ref a_36), (1, .ref a_1), (0, .ref b)]) hx hb dL_law_23 hl (by decide) rfl (fun ls hl => ?_)
  refine lv_iconst (v := 0) hx hb dL_law_25 (by decide) ?_
  refine lv_istore (lv' := [(5, .int 0), (4, .ref a_57), (3, .ref a_55), (2, .ref a_36), (1, .ref a_1), (0, .ref b)]) hx hb dL_law_26 hl (by decide) rfl (fun ls hl => ?_)
  refine lv_iload hx hb dL_law_28 (lv_at hl 0 rfl) ?_
  refine lv_aload_n hx hb dL_law_30 rfl (lv_at hl 5 rfl) ?_
  refine va_slen hx hb hX hbl hbA hS dL_law_31 ?_
  refine lv_bipush (v := 7) hx hb dL_law_32 (by decide) ?_
  refine lv_isub hx hb dL_law_34 ?_
  refine lv_topi (fun x_59 ex_59 => ?_)
  refine lv_icmp_gt (tgt := 2591) hx hb dL_law_35 (by decide) (fun c_60 => ?_) (fun c_60 => ?_)
  · refine W.widen (k := 600002) (n := 7302232) (Nat.le_of_ble_eq_true rfl) (Nat.le_of_ble_eq_true rfl) ?_
    exact law_ret C0 hA2 hS
  · obtain rfl : L = 7 := len7 hL (by rw [← ex_59]; exact c_60)
    refine lv_aload_n hx hb dL_law_38 rfl (lv_at hl 5 rfl) ?_
    refine lv_iload hx hb dL_law_39 (lv_at hl 0 rfl) ?_
    refine va_sld hx hb hX hbl hbA hS (i := 0) (by unfold vp_in; decide) dL_law_41 ?_
    refine lv_bipush (v := 63) hx hb dL_law_42 (by decide) ?_
    refine lv_iand hx hb dL_law_44 ?_
    refine lv_topi (fun x_61 ex_61 => ?_)
    obtain ⟨j, hj, ej⟩ : ∃ j : Nat, j < 2 ^ 6 ∧ x_61 = nI j := by rw [ex_61]; exact pk_andE _ 6 (by decide)
    have hj2 : j < 64 := hj
    rcases (show j = 0 ∨ j = 1 ∨ j = 2 ∨ j = 3 ∨ j = 4 ∨ j = 5 ∨ j = 6 ∨ j = 7 ∨ j = 8 ∨ j = 9 ∨ j = 10 ∨ j = 11 ∨ j = 12 ∨ j = 13 ∨ j = 14 ∨ j = 15 ∨ j = 16 ∨ j = 17 ∨ j = 18 ∨ j = 19 ∨ j = 20 ∨ j = 21 ∨ j = 22 ∨ j = 23 ∨ j = 24 ∨ j = 25 ∨ j = 26 ∨ j = 27 ∨ j = 28 ∨ j = 29 ∨ j = 30 ∨ j = 31 ∨ j = 32 ∨ j = 33 ∨ j = 34 ∨ j = 35 ∨ j = 36 ∨ j = 37 ∨ j = 38 ∨ 38 < j by omega) with rfl | rfl | rfl | rfl | rfl | rfl | rfl | rfl | rfl | rfl | rfl | rfl | rfl | rfl | rfl | rfl | rfl | rfl | rfl | rfl | rfl | rfl | rfl | rfl | rfl | rfl | rfl | rfl | rfl | rfl | rfl | rfl | rfl | rfl | rfl | rfl | rfl | rfl | rfl | hj3
    · subst ej
      refine lv_tableIn (off := 171) (tgt := 216) hx hb dL_law_45 (by decide) (by decide) (by decide +kernel) (by decide) ?_
      exact law_case_0 hst C0 hA hA2 ham hK hP hD hS hl
    · subst ej
      refine lv_tableIn (off := 341) (tgt := 386) hx hb dL_law_45 (by decide) (by decide) (by decide +kernel) (by decide) ?_
      exact law_case_1 hst C0 hA hA2 ham hK hP hD hS hl
    · subst ej
      refine lv_tableIn (off := 409) (tgt := 454) hx hb dL_law_45 (by decide) (by decide) (by decide +kernel) (by decide) ?_
      exact law_case_2 hst C0 hA hA2 ham hK hP hD hS hl
    · subst ej
      refine lv_tableIn (off := 465) (tgt := 510) hx hb dL_law_45 (by decide) (by decide) (by decide +kernel) (by decide) ?_
      exact law_case_3 hst C0 hA hA2 ham hK hP hD hS hl
    · subst ej
      refine lv_tableIn (off := 540) (tgt := 585) hx hb dL_law_45 (by decide) (by decide) (by decide +kernel) (by decide) ?_
      exact law_case_4 hst C0 hA hA2 ham hK hP hD hS hl
    · subst ej
      refine lv_tableIn (off := 608) (tgt := 653) hx hb dL_law_45 (by decide) (by decide) (by decide +kernel) (by decide) ?_
      exact law_case_5 hst C0 hA hA2 ham hK hP hD hS hl
    · subst ej
      refine lv_tableIn (off := 676) (tgt := 721) hx hb dL_law_45 (by decide) (by decide) (by decide +kernel) (by decide) ?_
      exact law_case_6 hst C0 hA hA2 ham hK hP hD hS hl
    · subst ej
      refine lv_tableIn (off := 720) (tgt := 765) hx hb dL_law_45 (by decide) (by decide) (by decide +kernel) (by decide) ?_
      exact law_case_7 hst C0 hA hA2 ham hK hP hD hS hl
    · subst ej
      refine lv_tableIn (off := 795) (tgt := 840) hx hb dL_law_45 (by decide) (by decide) (by decide +kernel) (by decide) ?_
      exact law_case_8 hst C0 hA hA2 ham hK hP hD hS hl
    · subst ej
      refine lv_tableIn (off := 839) (tgt := 884) hx hb dL_law_45 (by decide) (by decide) (by decide +kernel) (by decide) ?_
      exact law_case_9 hst C0 hA hA2 ham hK hP hD hS hl
    · subst ej
      refine lv_tableIn (off := 902) (tgt := 947) hx hb dL_law_45 (by decide) (by decide) (by decide +kernel) (by decide) ?_
      exact law_case_10 hst C0 hA hA2 ham hK hP hD hS hl
    · subst ej
      refine lv_tableIn (off := 970) (tgt := 1015) hx hb dL_law_45 (by decide) (by decide) (by decide +kernel) (by decide) ?_
      exact law_case_11 hst C0 hA hA2 ham hK hP hD hS hl
    · subst ej
      refine lv_tableIn (off := 1038) (tgt := 1083) hx hb dL_law_45 (by decide) (by decide) (by decide +kernel) (by decide) ?_
      exact law_case_12 hst C0 hA hA2 ham hK hP hD hS hl
    · subst ej
      refine lv_tableIn (off := 1113) (tgt := 1158) hx hb dL_law_45 (by decide) (by decide) (by decide +kernel) (by decide) ?_
      exact law_case_13 hst C0 hA hA2 ham hK hP hD hS hl
    · subst ej
      refine lv_tableIn (off := 1169) (tgt := 1214) hx hb dL_law_45 (by decide) (by decide) (by decide +kernel) (by decide) ?_
      exact law_case_14 hst C0 hA hA2 ham hK hP hD hS hl
    · subst ej
      refine lv_tableIn (off := 1213) (tgt := 1258) hx hb dL_law_45 (by decide) (by decide) (by decide +kernel) (by decide) ?_
      exact law_case_15 hst C0 hA hA2 ham hK hP hD hS hl
    · subst ej
      refine lv_tableIn (off := 1264) (tgt := 1309) hx hb dL_law_45 (by decide) (by decide) (by decide +kernel) (by decide) ?_
      exact law_case_16 hst C0 hA hA2 ham hK hP hD hS hl
    · subst ej
      refine lv_tableIn (off := 1308) (tgt := 1353) hx hb dL_law_45 (by decide) (by decide) (by decide +kernel) (by decide) ?_
      exact law_case_17 hst C0 hA hA2 ham hK hP hD hS hl
    · subst ej
      refine lv_tableIn (off := 1371) (tgt := 1416) hx hb dL_law_45 (by decide) (by decide) (by decide +kernel) (by decide) ?_
      exact law_case_18 hst C0 hA hA2 ham hK hP hD hS hl
    · subst ej
      refine lv_tableIn (off := 1429) (tgt := 1474) hx hb dL_law_45 (by decide) (by decide) (by decide +kernel) (by decide) ?_
      exact law_case_19 hst C0 hA hA2 ham hK hP hD hS hl
    · subst ej
      refine lv_tableIn (off := 1485) (tgt := 1530) hx hb dL_law_45 (by decide) (by decide) (by decide +kernel) (by decide) ?_
      exact law_case_20 hst C0 hA hA2 ham hK hP hD hS hl
    · subst ej
      refine lv_tableIn (off := 1541) (tgt := 1586) hx hb dL_law_45 (by decide) (by decide) (by decide +kernel) (by decide) ?_
      exact law_case_21 hst C0 hA hA2 ham hK hP hD hS hl
    · subst ej
      refine lv_tableIn (off := 1597) (tgt := 1642) hx hb dL_law_45 (by decide) (by decide) (by decide +kernel) (by decide) ?_
      exact law_case_22 hst C0 hA hA2 ham hK hP hD hS hl
    · subst ej
      refine lv_tableIn (off := 1660) (tgt := 1705) hx hb dL_law_45 (by decide) (by decide) (by decide +kernel) (by decide) ?_
      exact law_case_23 hst C0 hA hA2 ham hK hP hD hS hl
    · subst ej
      refine lv_tableIn (off := 1723) (tgt := 1768) hx hb dL_law_45 (by decide) (by decide) (by decide +kernel) (by decide) ?_
      exact law_case_24 hst C0 hA hA2 ham hK hP hD hS hl
    · subst ej
      refine lv_tableIn (off := 1736) (tgt := 1781) hx hb dL_law_45 (by decide) (by decide) (by decide +kernel) (by decide) ?_
      exact law_case_25 hst C0 hA hA2 ham hK hP hD hS hl
    · subst ej
      refine lv_tableIn (off := 1792) (tgt := 1837) hx hb dL_law_45 (by decide) (by decide) (by decide +kernel) (by decide) ?_
      exact law_case_26 hst C0 hA hA2 ham hK hP hD hS hl
    · subst ej
      refine lv_tableIn (off := 1848) (tgt := 1893) hx hb dL_law_45 (by decide) (by decide) (by decide +kernel) (by decide) ?_
      exact law_case_27 hst C0 hA hA2 ham hK hP hD hS hl
    · subst ej
      refine lv_tableIn (off := 1928) (tgt := 1973) hx hb dL_law_45 (by decide) (by decide) (by decide +kernel) (by decide) ?_
      exact law_case_28 hst C0 hA hA2 ham hK hP hD hS hl
    · subst ej
      refine lv_tableIn (off := 1996) (tgt := 2041) hx hb dL_law_45 (by decide) (by decide) (by decide +kernel) (by decide) ?_
      exact law_case_29 hst C0 hA hA2 ham hK hP hD hS hl
    · subst ej
      refine lv_tableIn (off := 2040) (tgt := 2085) hx hb dL_law_45 (by decide) (by decide) (by decide +kernel) (by decide) ?_
      exact law_case_30 hst C0 hA hA2 ham hK hP hD hS hl
    · subst ej
      refine lv_tableIn (off := 2122) (tgt := 2167) hx hb dL_law_45 (by decide) (by decide) (by decide +kernel) (by decide) ?_
      exact law_case_31 hst C0 hA hA2 ham hK hP hD hS hl
    · subst ej
      refine lv_tableIn (off := 2190) (tgt := 2235) hx hb dL_law_45 (by decide) (by decide) (by decide +kernel) (by decide) ?_
      exact law_case_32 hst C0 hA hA2 ham hK hP hD hS hl
    · subst ej
      refine lv_tableIn (off := 2246) (tgt := 2291) hx hb dL_law_45 (by decide) (by decide) (by decide +kernel) (by decide) ?_
      exact law_case_33 hst C0 hA hA2 ham hK hP hD hS hl
    · subst ej
      refine lv_tableIn (off := 2314) (tgt := 2359) hx hb dL_law_45 (by decide) (by decide) (by decide +kernel) (by decide) ?_
      exact law_case_34 hst C0 hA hA2 ham hK hP hD hS hl
    · subst ej
      refine lv_tableIn (off := 2382) (tgt := 2427) hx hb dL_law_45 (by decide) (by decide) (by decide +kernel) (by decide) ?_
      exact law_case_35 hst C0 hA hA2 ham hK hP hD hS hl
    · subst ej
      refine lv_tableIn (off := 2396) (tgt := 2441) hx hb dL_law_45 (by decide) (by decide) (by decide +kernel) (by decide) ?_
      exact law_case_36 hst C0 hA hA2 ham hK hP hD hS hl
    · subst ej
      refine lv_tableIn (off := 2462) (tgt := 2507) hx hb dL_law_45 (by decide) (by decide) (by decide +kernel) (by decide) ?_
      exact law_case_37 hst C0 hA hA2 ham hK hP hD hS hl
    · subst ej
      refine lv_tableIn (off := 2527) (tgt := 2572) hx hb dL_law_45 (by decide) (by decide) (by decide +kernel) (by decide) ?_
      exact law_case_38 hst C0 hA hA2 ham hK hP hD hS hl
    · subst ej
      refine lv_tableOut (tgt := 2585) hx hb dL_law_45 (Or.inr (by rw [nI_toInt (by omega)]; omega)) (by decide) ?_
      refine W.widen (k := 600002) (n := 7302232) (Nat.le_of_ble_eq_true rfl) (Nat.le_of_ble_eq_true rfl) ?_
      exact law_end C0 hA hA2 hS (lv_sub hl [5, 0] rfl)
