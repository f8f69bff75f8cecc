abbrev cJx4a65c_size_8abf5 : ByteArray := prog_40_method_8_code
def yJx4a65c_size_8abf5 : MethodName := ⟨RJx4a65c, "size", "()I"⟩
theorem dJx4a65c_size_8abf5_0 : decode cJx4a65c_size_8abf5 0 = .ok (.aload_n 0, 1) := by decide +kernel
theorem dJx4a65c_size_8abf5_1 : decode cJx4a65c_size_8abf5 1 = .ok (.getfield 48, 3) := by decide +kernel
theorem q_1288 : (Cond.fieldLink "java/util/ArrayList" 48 "java/util/ArrayList" "size" "I") ∈ tw := tw_in (i := 1288) (by decide +kernel) (by decide +kernel)
theorem dJx4a65c_size_8abf5_4 : decode cJx4a65c_size_8abf5 4 = .ok (.ireturn, 1) := by decide +kernel
set_option maxHeartbeats 4000000 in
set_option maxRecDepth 100000 in
theorem c_size0 (l : Launch) (hst : l.stackTraces = false) (tE : Nat) (adK adV : Nat → Nat) (dC : Nat → ClassId) (dI : Nat → Nat → Nat) (h0 : Nat) (sz : Nat) : Met l yJx4a65c_size_8abf5 (Cond.code yJx4a65c_size_8abf5 cJx4a65c_size_8abf5 1 (some .int) :: tw) ({ frames := 0, cells := 0, slots := 0, locals := 0 }) (va_Pc [.ref h0] (preR tE adK adV (dC, dI) [(h0, .inr (14, [.int 0, .ref tE, .int 0]))] [] sz)) (va_Qi (fun (r : Int32) (_ : Unit) => r = 0) (fun (_ : Unit) (_ : State) => True) (fun q : Nat => sz ≤ q)) 0 0 (fun q : Nat => sz ≤ q) := by
  refine Met.ofW (cc := cJx4a65c_size_8abf5) (maxL := 1) (ret := (some .int)) (by decide) rfl ?_
  intro p e s m args below meth c s₁ B hml hv
  obtain ⟨rfl, hsz, hP, hK, ham⟩ := hv
  have hx := B.exec
  have hb := B.bytes
  have hr := B.returns
  have hts := atoms_spec B.pre
  have hq : ∀ w ∈ tw, w.before _ s = true := fun w h => hts w (List.mem_cons_of_mem _ h)
  have hown : s.vm.findClass RJx4a65c = some m.cls := findClass_of_methodNamed B.named
  have hlocks := B.notSynchronized
  subst hsz
  generalize hAe : (fun q : Nat => s.heap.size ≤ q) = A at ham ⊢
  have hA : ∀ q : Nat, s.heap.size ≤ q → A q := fun q h => by rw [← hAe]; exact h
  have hS : va_S A s.heap s.heap [] := va_S.rf
  have hP : va_P (dC, dI) cls [(h0, .inr (14, [.int 0, .ref tE, .int 0]))] s.heap := hP
  have hl := lv_entry ([.ref h0]) (n := 1) (Nat.le_of_ble_eq_true rfl)
  rw [lg_entry_eq]
  generalize (lg_sl ([.ref h0]) ++ List.replicate (1 - (lg_sl ([.ref h0])).length) Slot.unset).toArray = ls at hl ⊢
  have hl : lv_has ls 1 [(0, .ref h0)] := hl
  refine lv_aload_n hx hb dJx4a65c_size_8abf5_0 rfl (lv_at hl 0 rfl) ?_
  refine va_get (D := (dC, dI)) (ci := 14) (v := .int 0) (C := RJx4a65c) (T := TJx4a65c) (N := 3) hx hb hq i_Jx4a65c hown hK hP 0 rfl rfl 2 (by decide) (hq _ q_1288) (fun _ h9 => h9) rfl dJx4a65c_size_8abf5_1 ?_
  refine W.widen (k := 0) (n := 0) (Nat.le_of_ble_eq_true rfl) (Nat.le_of_ble_eq_true rfl) ?_
  exact W.iret (v := 0) hx hb hr (fun t ht hW => ⟨⟨0, (), rfl, rfl, trivial⟩, hS.F ht⟩) hS.2.2 dJx4a65c_size_8abf5_4
abbrev cJx4a65c_isEmpty_aae02 : ByteArray := prog_40_method_9_code
def yJx4a65c_isEmpty_aae02 : MethodName := ⟨RJx4a65c, "isEmpty", "()Z"⟩
theorem dJx4a65c_isEmpty_aae02_0 : decode cJx4a65c_isEmpty_aae02 0 = .ok (.aload_n 0, 1) := by decide +kernel
theorem dJx4a65c_isEmpty_aae02_1 : decode cJx4a65c_isEmpty_aae02 1 = .ok (.getfield 48, 3) := by decide +kernel
theorem dJx4a65c_isEmpty_aae02_4 : decode cJx4a65c_isEmpty_aae02 4 = .ok (.ifCond .ne 7, 3) := by decide +kernel
theorem dJx4a65c_isEmpty_aae02_7 : decode cJx4a65c_isEmpty_aae02 7 = .ok (.iconst 1, 1) := by decide +kernel
theorem dJx4a65c_isEmpty_aae02_8 : decode cJx4a65c_isEmpty_aae02 8 = .ok (.goto 4, 3) := by decide +kernel
theorem dJx4a65c_isEmpty_aae02_12 : decode cJx4a65c_isEmpty_aae02 12 = .ok (.ireturn, 1) := by decide +kernel
set_option maxHeartbeats 4000000 in
set_option maxRecDepth 100000 in
theorem c_isEmpty0 (l : Launch) (hst : l.stackTraces = false) (tE : Nat) (adK adV : Nat → Nat) (dC : Nat → ClassId) (dI : Nat → Nat → Nat) (h0 : Nat) (sz : Nat) : Met l yJx4a65c_isEmpty_aae02 (Cond.code yJx4a65c_isEmpty_aae02 cJx4a65c_isEmpty_aae02 1 (some .boolean) :: tw) ({ frames := 0, cells := 0, slots := 0, locals := 0 }) (va_Pc [.ref h0] (preR tE adK adV (dC, dI) [(h0, .inr (14, [.int 0, .ref tE, .int 0]))] [] sz)) (va_Qi (fun (r : Int32) (_ : Unit) => r = 1) (fun (_ : Unit) (_ : State) => True) (fun q : Nat => sz ≤ q)) 0 0 (fun q : Nat => sz ≤ q) := by
  refine Met.ofW (cc := cJx4a65c_isEmpty_aae02) (maxL := 1) (ret := (some .boolean)) (by decide) rfl ?_
  intro p e s m args below meth c s₁ B hml hv
  obtain ⟨rfl, hsz, hP, hK, ham⟩ := hv
  have hx := B.exec
  have hb := B.bytes
  have hr := B.returns
  have hts := atoms_spec B.pre
  have hq : ∀ w ∈ tw, w.before _ s = true := fun w h => hts w (List.mem_cons_of_mem _ h)
  have hown : s.vm.findClass RJx4a65c = some m.cls := findClass_of_methodNamed B.named
  have hlocks := B.notSynchronized
  subst hsz
  generalize hAe : (fun q : Nat => s.heap.size ≤ q) = A at ham ⊢
  have hA : ∀ q : Nat, s.heap.size ≤ q → A q := fun q h => by rw [← hAe]; exact h
  have hS : va_S A s.heap s.heap [] := va_S.rf
  have hP : va_P (dC, dI) cls [(h0, .inr (14, [.int 0, .ref tE, .int 0]))] s.heap := hP
  have hl := lv_entry ([.ref h0]) (n := 1) (Nat.le_of_ble_eq_true rfl)
  rw [lg_entry_eq]
  generalize (lg_sl ([.ref h0]) ++ List.replicate (1 - (lg_sl ([.ref h0])).length) Slot.unset).toArray = ls at hl ⊢
  have hl : lv_has ls 1 [(0, .ref h0)] := hl
  refine lv_aload_n hx hb dJx4a65c_isEmpty_aae02_0 rfl (lv_at hl 0 rfl) ?_
  refine va_get (D := (dC, dI)) (ci := 14) (v := .int 0) (C := RJx4a65c) (T := TJx4a65c) (N := 3) hx hb hq i_Jx4a65c hown hK hP 0 rfl rfl 2 (by decide) (hq _ q_1288) (fun _ h9 => h9) rfl dJx4a65c_isEmpty_aae02_1 ?_
  refine lv_if_ne (tgt := 11) hx hb dJx4a65c_isEmpty_aae02_4 (by decide) (fun c_1 => ?_) (fun c_1 => ?_)
  · exact absurd c_1 (by decide)
  · refine lv_iconst (v := 1) hx hb dJx4a65c_isEmpty_aae02_7 (by decide) ?_
    refine lv_goto (tgt := 12) hx hb dJx4a65c_isEmpty_aae02_8 (by decide) ?_
    refine W.widen (k := 0) (n := 0) (Nat.le_of_ble_eq_true rfl) (Nat.le_of_ble_eq_true rfl) ?_
    exact W.zret (v := 1) hx hb hr (by decide) (fun t ht hW => ⟨⟨1, (), rfl, rfl, trivial⟩, hS.F ht⟩) hS.2.2 dJx4a65c_isEmpty_aae02_12
abbrev cX12_isOf : ByteArray := prog_13_method_3_code
def yX12_isOf : MethodName := ⟨RX12, "isOf", "(Ljava/util/List;I)Z"⟩
theorem dX12_isOf_0 : decode cX12_isOf 0 = .ok (.iload_n 1, 1) := by decide +kernel
theorem dX12_isOf_1 : decode cX12_isOf 1 = .ok (.ifCond .lt 17, 3) := by decide +kernel
theorem dX12_isOf_18 : decode cX12_isOf 18 = .ok (.iconst 0, 1) := by decide +kernel
theorem dX12_isOf_19 : decode cX12_isOf 19 = .ok (.ireturn, 1) := by decide +kernel
theorem dX12_isOf_4 : decode cX12_isOf 4 = .ok (.iload_n 1, 1) := by decide +kernel
theorem dX12_isOf_5 : decode cX12_isOf 5 = .ok (.aload_n 0, 1) := by decide +kernel
theorem dX12_isOf_6 : decode cX12_isOf 6 = .ok (.invokeinterface 7 1, 5) := by decide +kernel
theorem q_1484 : (Cond.code yJx4a65c_size_8abf5 cJx4a65c_size_8abf5 1 (some .int)) ∈ tw := tw_in (i := 1484) (by decide +kernel) (by decide +kernel)
theorem q_1476 : (Cond.methodLink "NightfallVillageModel" 7 ⟨"java/util/List", "size", "()I"⟩) ∈ tw := tw_in (i := 1476) (by decide +kernel) (by decide +kernel)
theorem q_1482 : (Cond.instanceMethod yJx4a65c_size_8abf5) ∈ tw := tw_in (i := 1482) (by decide +kernel) (by decide +kernel)
theorem q_1480 : (Cond.selects "java/util/ArrayList" ⟨"java/util/List", "size", "()I"⟩ yJx4a65c_size_8abf5) ∈ tw := tw_in (i := 1480) (by decide +kernel) (by decide +kernel)
theorem q_1478 : (Cond.declares ⟨"java/util/List", "size", "()I"⟩) ∈ tw := tw_in (i := 1478) (by decide +kernel) (by decide +kernel)
theorem q_1477 : (Cond.interfaceMethod "java/util/List" "java/util/List" "size" "()I") ∈ tw := tw_in (i := 1477) (by decide +kernel) (by decide +kernel)
theorem q_1483 : (Cond.publicMethod yJx4a65c_size_8abf5) ∈ tw := tw_in (i := 1483) (by decide +kernel) (by decide +kernel)
theorem q_1481 : (Cond.unhidden "java/util/ArrayList" "size" "()I") ∈ tw := tw_in (i := 1481) (by decide +kernel) (by decide +kernel)
theorem q_1479 : (Cond.castable "java/util/ArrayList" "java/util/List") ∈ tw := tw_in (i := 1479) (by decide +kernel) (by decide +kernel)
theorem dX12_isOf_11 : decode cX12_isOf 11 = .ok (.if_icmp .ge 7, 3) := by decide +kernel
set_option maxHeartbeats 4000000 in
set_option maxRecDepth 100000 in
/-- nothing is a place of an empty list -/
theorem c_isOf (l : Launch) (hst : l.stackTraces = false) (tE : Nat) (adK adV : Nat → Nat) (dC : Nat → ClassId) (dI : Nat → Nat → Nat) (h0 : Nat) (p1 : Int32) (sz : Nat) : Met l yX12_isOf (Cond.code yX12_isOf cX12_isOf 2 (some .boolean) :: tw) ({ frames := 1, cells := 0, slots := 0, locals := 20 }) (va_Pc [.ref h0, .int p1] (preR tE adK adV (dC, dI) [(h0, .inr (14, [.int 0, .ref tE, .int 0]))] [] sz)) (va_Qi (fun (r : Int32) (_ : Unit) => r = 0) (fun (_ : Unit) (_ : State) => True) (fun q : Nat => sz ≤ q)) 0 0 (fun q : Nat => sz ≤ q) := by
  refine Met.ofW (cc := cX12_isOf) (maxL := 2) (ret := (some .boolean)) (by decide) rfl ?_
  intro p e s m args below meth c s₁ B hml hv
  obtain ⟨rfl, hsz, hP, hK, ham⟩ := hv
  have hx := B.exec
  have hb := B.bytes
  have hr := B.returns
  have hts := atoms_spec B.pre
  have hq : ∀ w ∈ tw, w.before _ s = true := fun w h => hts w (List.mem_cons_of_mem _ h)
  have hown : s.vm.findClass RX12 = some m.cls := findClass_of_methodNamed B.named
  have hlocks := B.notSynchronized
  subst hsz
  generalize hAe : (fun q : Nat => s.heap.size ≤ q) = A at ham ⊢
  have hA : ∀ q : Nat, s.heap.size ≤ q → A q := fun q h => by rw [← hAe]; exact h
  have hS : va_S A s.heap s.heap [] := va_S.rf
  have hP : va_P (dC, dI) cls [(h0, .inr (14, [.int 0, .ref tE, .int 0]))] s.heap := hP
  have hl := lv_entry ([.ref h0, .int p1]) (n := 2) (Nat.le_of_ble_eq_true rfl)
  rw [lg_entry_eq]
  generalize (lg_sl ([.ref h0, .int p1]) ++ List.replicate (2 - (lg_sl ([.ref h0, .int p1])).length) Slot.unset).toArray = ls at hl ⊢
  have hl : lv_has ls 2 [(0, .ref h0), (1, .int p1)] := hl
  refine lv_iload_n hx hb dX12_isOf_0 rfl (lv_at hl 1 rfl) ?_
  refine lv_if_lt (tgt := 18) hx hb dX12_isOf_1 (by decide) (fun c_1 => ?_) (fun c_1 => ?_)
  · refine lv_iconst (v := 0) hx hb dX12_isOf_18 (by decide) ?_
    refine W.widen (k := 0) (n := 0) (Nat.le_of_ble_eq_true rfl) (Nat.le_of_ble_eq_true rfl) ?_
    exact W.zret (v := 0) hx hb hr (by decide) (fun t ht hW => ⟨⟨0, (), rfl, rfl, trivial⟩, hS.F ht⟩) hS.2.2 dX12_isOf_19
  · refine lv_iload_n hx hb dX12_isOf_4 rfl (lv_at hl 1 rfl) ?_
    refine lv_aload_n hx hb dX12_isOf_5 rfl (lv_at hl 0 rfl) ?_
    have hPc := hP.sub (ws' := [(h0, .inr (14, [.int 0, .ref tE, .int 0]))]) [0] rfl
    have hKc := hK.sub (tys' := []) [] rfl
    refine va_callFi (va_runF (hK.1 14 _ rfl).2 (As := []) (rest := [.int p1]) ⟨hx, hb, hml, hown, hq⟩ (c_size0 l hst tE adK adV dC dI h0 s.heap.size) (tcF 0 hq q_1484 q_15 q_1476 q_1482 q_1480 q_1478 q_1477 q_1483 q_1481 q_1479 rfl rfl (by decide +kernel) ⟨Nat.le_of_ble_eq_true rfl, Nat.le_of_ble_eq_true rfl⟩) (preR.V (va_recv hK hP (ci := 14) (q0 := 0) rfl rfl) (preR.of hPc hKc ham hS hA)) rfl rfl hl.1 rfl (lv_room (Nat.le_of_ble_eq_true rfl)) dX12_isOf_6 ⟨Nat.le_of_ble_eq_true rfl, Nat.le_of_ble_eq_true rfl⟩) hS (fun q _ h => hA q (Nat.le_trans hS.1 h)) (fun q h => hA q (Nat.le_trans hS.1 h)) (fun r_2 u t H1 locs ht hvm hw hB hz1 hk1 hS => ?_)
    have hP : va_P (dC, dI) cls [(h0, .inr (14, [.int 0, .ref tE, .int 0]))] H1 := ro_keep hP hk1
    generalize H1 = H at hP hS ⊢
    refine W.widen (k := 0) (n := 0) (Nat.le_of_ble_eq_true rfl) (Nat.le_of_ble_eq_true rfl) ?_
    have hw : r_2 = 0 := hw
    subst hw
    refine lv_icmp_ge (tgt := 18) hx hb dX12_isOf_11 (by decide) (fun c_3 => ?_) (fun c_3 => ?_)
    · refine lv_iconst (v := 0) hx hb dX12_isOf_18 (by decide) ?_
      refine W.widen (k := 0) (n := 0) (Nat.le_of_ble_eq_true rfl) (Nat.le_of_ble_eq_true rfl) ?_
      exact W.zret (v := 0) hx hb hr (by decide) (fun t ht hW => ⟨⟨0, (), rfl, rfl, trivial⟩, hS.F ht⟩) hS.2.2 dX12_isOf_19
    · exact absurd (Int32.not_lt.mp c_1) c_3
abbrev cX12_isWrong : ByteArray := prog_13_method_2_code
def yX12_isWrong : MethodName := ⟨RX12, "isWrong", "(I)Z"⟩
theorem dX12_isWrong_0 : decode cX12_isWrong 0 = .ok (.aload_n 0, 1) := by decide +kernel
theorem dX12_isWrong_1 : decode cX12_isWrong 1 = .ok (.iload_n 1, 1) := by decide +kernel
theorem dX12_isWrong_2 : decode cX12_isWrong 2 = .ok (.putfield 1, 3) := by decide +kernel
theorem q_1304 : (Cond.fieldLink "NightfallVillageModel" 1 "NightfallVillageModel" "thrown" "I") ∈ tw := tw_in (i := 1304) (by decide +kernel) (by decide +kernel)
theorem dX12_isWrong_5 : decode cX12_isWrong 5 = .ok (.iload_n 1, 1) := by decide +kernel
theorem dX12_isWrong_6 : decode cX12_isWrong 6 = .ok (.ifCond .le 7, 3) := by decide +kernel
theorem dX12_isWrong_13 : decode cX12_isWrong 13 = .ok (.iconst 0, 1) := by decide +kernel
theorem dX12_isWrong_14 : decode cX12_isWrong 14 = .ok (.ireturn, 1) := by decide +kernel
set_option maxHeartbeats 4000000 in
set_option maxRecDepth 100000 in
theorem c_isWrong0 (l : Launch) (hst : l.stackTraces = false) (tE : Nat) (adK adV : Nat → Nat) (dC : Nat → ClassId) (dI : Nat → Nat → Nat) (m0 : Nat) (lr : Nat) (ld : Nat) (o1 : Nat) (o2 : Nat) (o3 : Nat) (o4 : Nat) (o5 : Nat) (o6 : Nat) (o7 : Nat) (o8 : Nat) (o9 : Nat) (o10 : Nat) (t1 : Nat) (t2 : Nat) (t3 : Nat) (t4 : Nat) (t5 : Nat) (th : Int32) (sz : Nat) : Met l yX12_isWrong (Cond.code yX12_isWrong cX12_isWrong 2 (some .boolean) :: tw) ({ frames := 0, cells := 0, slots := 0, locals := 0 }) (va_Pc [.ref m0, .int 0] (pre tE adK adV (dC, dI) [(m0, .inr (12, [.int th, .ref lr, .ref ld, .ref o1, .int (-1), .int (-1), .int 0, .ref o2, .ref o3, .ref o4, .ref o5, .ref o6, .ref o7, .ref o8, .ref o9, .ref o10, .int 0, .int 0, .null, .int 0, .int 45, .ref t1, .ref t2, .ref t3, .ref t4, .ref t5]))] [] sz)) (va_Qi (fun (r : Int32) (_ : Unit) => r = 0) (fun (_ : Unit) (t : State) => va_P (dC, dI) cls [(m0, .inr (12, [.int 0, .ref lr, .ref ld, .ref o1, .int (-1), .int (-1), .int 0, .ref o2, .ref o3, .ref o4, .ref o5, .ref o6, .ref o7, .ref o8, .ref o9, .ref o10, .int 0, .int 0, .null, .int 0, .int 45, .ref t1, .ref t2, .ref t3, .ref t4, .ref t5]))] t.heap ∧ va_K (dC, dI) cls [] t ∧ va_D (va_A [(m0, .inr (12, [.int th, .ref lr, .ref ld, .ref o1, .int (-1), .int (-1), .int 0, .ref o2, .ref o3, .ref o4, .ref o5, .ref o6, .ref o7, .ref o8, .ref o9, .ref o10, .int 0, .int 0, .null, .int 0, .int 45, .ref t1, .ref t2, .ref t3, .ref t4, .ref t5]))] sz) [(m0, .inr (12, [.int 0, .ref lr, .ref ld, .ref o1, .int (-1), .int (-1), .int 0, .ref o2, .ref o3, .ref o4, .ref o5, .ref o6, .ref o7, .ref o8, .ref o9, .ref o10, .int 0, .int 0, .null, .int 0, .int 45, .ref t1, .ref t2, .ref t3, .ref t4, .ref t5]))]) (va_A [(m0, .inr (12, [.int th, .ref lr, .ref ld, .ref o1, .int (-1), .int (-1), .int 0, .ref o2, .ref o3, .ref o4, .ref o5, .ref o6, .ref o7, .ref o8, .ref o9, .ref o10, .int 0, .int 0, .null, .int 0, .int 45, .ref t1, .ref t2, .ref t3, .ref t4, .ref t5]))] sz)) 0 0 (va_A [(m0, .inr (12, [.int th, .ref lr, .ref ld, .ref o1, .int (-1), .int (-1), .int 0, .ref o2, .ref o3, .ref o4, .ref o5, .ref o6, .ref o7, .ref o8, .ref o9, .ref o10, .int 0, .int 0, .null, .int 0, .int 45, .ref t1, .ref t2, .ref t3, .ref t4, .ref t5]))] sz) := by
  refine Met.ofW (cc := cX12_isWrong) (maxL := 2) (ret := (some .boolean)) (by decide) rfl ?_
  intro p e s m args below meth c s₁ B hml hv
  obtain ⟨rfl, hsz, hP, hK, hD0, ham⟩ := hv
  have hx := B.exec
  have hb := B.bytes
  have hr := B.returns
  have hts := atoms_spec B.pre
  have hq : ∀ w ∈ tw, w.before _ s = true := fun w h => hts w (List.mem_cons_of_mem _ h)
  have hown : s.vm.findClass RX12 = some m.cls := findClass_of_methodNamed B.named
  have hlocks := B.notSynchronized
  subst hsz
  have hD := hD0.self (sz := s.heap.size)
  generalize hAe : va_A [(m0, .inr (12, [.int th, .ref lr, .ref ld, .ref o1, .int (-1), .int (-1), .int 0, .ref o2, .ref o3, .ref o4, .ref o5, .ref o6, .ref o7, .ref o8, .ref o9, .ref o10, .int 0, .int 0, .null, .int 0, .int 45, .ref t1, .ref t2, .ref t3, .ref t4, .ref t5]))] s.heap.size = A at hD ham ⊢
  have hA : ∀ q : Nat, s.heap.size ≤ q → A q := fun q h => by rw [← hAe]; exact Or.inr h
  have hS : va_S A s.heap s.heap [] := va_S.rf
  have hP : va_P (dC, dI) cls [(m0, .inr (12, [.int th, .ref lr, .ref ld, .ref o1, .int (-1), .int (-1), .int 0, .ref o2, .ref o3, .ref o4, .ref o5, .ref o6, .ref o7, .ref o8, .ref o9, .ref o10, .int 0, .int 0, .null, .int 0, .int 45, .ref t1, .ref t2, .ref t3, .ref t4, .ref t5]))] s.heap := hP
  have hl := lv_entry ([.ref m0, .int 0]) (n := 2) (Nat.le_of_ble_eq_true rfl)
  rw [lg_entry_eq]
  generalize (lg_sl ([.ref m0, .int 0]) ++ List.replicate (2 - (lg_sl ([.ref m0, .int 0])).length) Slot.unset).toArray = ls at hl ⊢
  have hl : lv_has ls 2 [(0, .ref m0), (1, .int 0)] := hl
  refine lv_aload_n hx hb dX12_isWrong_0 rfl (lv_at hl 0 rfl) ?_
  refine lv_iload_n hx hb dX12_isWrong_1 rfl (lv_at hl 1 rfl) ?_
  refine va_put (D := (dC, dI)) (ci := 12) (v := .int 0) (ty := .int) (C := RX12) (T := TX12) (N := 26) hx hb hq i_X12 tyX12 tyX12_ok nmX12 hown hK hP hD hS 0 rfl rfl 0 (by decide) (hq _ q_1304) (fun _ h9 => h9) rfl (by decide +kernel) rfl rfl (Nat.le_of_ble_eq_true rfl) dX12_isWrong_2 (fun H locs hP hD hS => ?_)
  have hP : va_P (dC, dI) cls [(m0, .inr (12, [.int 0, .ref lr, .ref ld, .ref o1, .int (-1), .int (-1), .int 0, .ref o2, .ref o3, .ref o4, .ref o5, .ref o6, .ref o7, .ref o8, .ref o9, .ref o10, .int 0, .int 0, .null, .int 0, .int 45, .ref t1, .ref t2, .ref t3, .ref t4, .ref t5]))] H := hP
  have hD : va_D A [(m0, .inr (12, [.int 0, .ref lr, .ref ld, .ref o1, .int (-1), .int (-1), .int 0, .ref o2, .ref o3, .ref o4, .ref o5, .ref o6, .ref o7, .ref o8, .ref o9, .ref o10, .int 0, .int 0, .null, .int 0, .int 45, .ref t1, .ref t2, .ref t3, .ref t4, .ref t5]))] := hD
  refine lv_iload_n hx hb dX12_isWrong_5 rfl (lv_at hl 1 rfl) ?_
  refine lv_if_le (tgt := 13) hx hb dX12_isWrong_6 (by decide) (fun c_1 => ?_) (fun c_1 => ?_)
  · refine lv_iconst (v := 0) hx hb dX12_isWrong_13 (by decide) ?_
    refine W.widen (k := 0) (n := 0) (Nat.le_of_ble_eq_true rfl) (Nat.le_of_ble_eq_true rfl) ?_
    have hP9 := hP.sub (ws' := [(m0, .inr (12, [.int 0, .ref lr, .ref ld, .ref o1, .int (-1), .int (-1), .int 0, .ref o2, .ref o3, .ref o4, .ref o5, .ref o6, .ref o7, .ref o8, .ref o9, .ref o10, .int 0, .int 0, .null, .int 0, .int 45, .ref t1, .ref t2, .ref t3, .ref t4, .ref t5]))]) [0] rfl
    have hD9 := hD.sub (ws' := [(m0, .inr (12, [.int 0, .ref lr, .ref ld, .ref o1, .int (-1), .int (-1), .int 0, .ref o2, .ref o3, .ref o4, .ref o5, .ref o6, .ref o7, .ref o8, .ref o9, .ref o10, .int 0, .int 0, .null, .int 0, .int 45, .ref t1, .ref t2, .ref t3, .ref t4, .ref t5]))]) [0] (by decide) rfl
    have hK9 := hK.sub (tys' := []) [] rfl
    exact W.zret (v := 0) hx hb hr (by decide) (fun t ht hW => ⟨⟨0, (), rfl, rfl, ⟨by rw [ht]; exact hP9, va_K.moved hW.alike hK9, hD9⟩⟩, hS.F ht⟩) hS.2.2 dX12_isWrong_14
  · exact absurd c_1 (by decide)
theorem dX12_isWrong_9 : decode cX12_isWrong 9 = .ok (.iconst 1, 1) := by decide +kernel
theorem dX12_isWrong_10 : decode cX12_isWrong 10 = .ok (.goto 4, 3) := by decide +kernel
set_option maxHeartbeats 4000000 in
set_option maxRecDepth 100000 in
theorem c_isWrong1 (l : Launch) (hst : l.stackTraces = false) (tE : Nat) (adK adV : Nat → Nat) (dC : Nat → ClassId) (dI : Nat → Nat → Nat) (m0 : Nat) (lr : Nat) (ld : Nat) (o1 : Nat) (o2 : Nat) (o3 : Nat) (o4 : Nat) (o5 : Nat) (o6 : Nat) (o7 : Nat) (o8 : Nat) (o9 : Nat) (o10 : Nat) (t1 : Nat) (t2 : Nat) (t3 : Nat) (t4 : Nat) (t5 : Nat) (th : Int32) (sz : Nat) : Met l yX12_isWrong (Cond.code yX12_isWrong cX12_isWrong 2 (some .boolean) :: tw) ({ frames := 0, cells := 0, slots := 0, locals := 0 }) (va_Pc [.ref m0, .int 1] (pre tE adK adV (dC, dI) [(m0, .inr (12, [.int th, .ref lr, .ref ld, .ref o1, .int (-1), .int (-1), .int 0, .ref o2, .ref o3, .ref o4, .ref o5, .ref o6, .ref o7, .ref o8, .ref o9, .ref o10, .int 0, .int 0, .null, .int 0, .int 45, .ref t1, .ref t2, .ref t3, .ref t4, .ref t5]))] [] sz)) (va_Qi (fun (r : Int32) (_ : Unit) => r = 1) (fun (_ : Unit) (t : State) => va_P (dC, dI) cls [(m0, .inr (12, [.int 1, .ref lr, .ref ld, .ref o1, .int (-1), .int (-1), .int 0, .ref o2, .ref o3, .ref o4, .ref o5, .ref o6, .ref o7, .ref o8, .ref o9, .ref o10, .int 0, .int 0, .null, .int 0, .int 45, .ref t1, .ref t2, .ref t3, .ref t4, .ref t5]))] t.heap ∧ va_K (dC, dI) cls [] t ∧ va_D (va_A [(m0, .inr (12, [.int th, .ref lr, .ref ld, .ref o1, .int (-1), .int (-1), .int 0, .ref o2, .ref o3, .ref o4, .ref o5, .ref o6, .ref o7, .ref o8, .ref o9, .ref o10, .int 0, .int 0, .null, .int 0, .int 45, .ref t1, .ref t2, .ref t3, .ref t4, .ref t5]))] sz) [(m0, .inr (12, [.int 1, .ref lr, .ref ld, .ref o1, .int (-1), .int (-1), .int 0, .ref o2, .ref o3, .ref o4, .ref o5, .ref o6, .ref o7, .ref o8, .ref o9, .ref o10, .int 0, .int 0, .null, .int 0, .int 45, .ref t1, .ref t2, .ref t3, .ref t4, .ref t5]))]) (va_A [(m0, .inr (12, [.int th, .ref lr, .ref ld, .ref o1, .int (-1), .int (-1), .int 0, .ref o2, .ref o3, .ref o4, .ref o5, .ref o6, .ref o7, .ref o8, .ref o9, .ref o10, .int 0, .int 0, .null, .int 0, .int 45, .ref t1, .ref t2, .ref t3, .ref t4, .ref t5]))] sz)) 0 0 (va_A [(m0, .inr (12, [.int th, .ref lr, .ref ld, .ref o1, .int (-1), .int (-1), .int 0, .ref o2, .ref o3, .ref o4, .ref o5, .ref o6, .ref o7, .ref o8, .ref o9, .ref o10, .int 0, .int 0, .null, .int 0, .int 45, .ref t1, .ref t2, .ref t3, .ref t4, .ref t5]))] sz) := by
  refine Met.ofW (cc := cX12_isWrong) (maxL := 2) (ret := (some .boolean)) (by decide) rfl ?_
  intro p e s m args below meth c s₁ B hml hv
  obtain ⟨rfl, hsz, hP, hK, hD0, ham⟩ := hv
  have hx := B.exec
  have hb := B.bytes
  have hr := B.returns
  have hts := atoms_spec B.pre
  have hq : ∀ w ∈ tw, w.before _ s = true := fun w h => hts w (List.mem_cons_of_mem _ h)
  have hown : s.vm.findClass RX12 = some m.cls := findClass_of_methodNamed B.named
  have hlocks := B.notSynchronized
  subst hsz
  have hD := hD0.self (sz := s.heap.size)
  generalize hAe : va_A [(m0, .inr (12, [.int th, .ref lr, .ref ld, .ref o1, .int (-1), .int (-1), .int 0, .ref o2, .ref o3, .ref o4, .ref o5, .ref o6, .ref o7, .ref o8, .ref o9, .ref o10, .int 0, .int 0, .null, .int 0, .int 45, .ref t1, .ref t2, .ref t3, .ref t4, .ref t5]))] s.heap.size = A at hD ham ⊢
  have hA : ∀ q : Nat, s.heap.size ≤ q → A q := fun q h => by rw [← hAe]; exact Or.inr h
  have hS : va_S A s.heap s.heap [] := va_S.rf
  have hP : va_P (dC, dI) cls [(m0, .inr (12, [.int th, .ref lr, .ref ld, .ref o1, .int (-1), .int (-1), .int 0, .ref o2, .ref o3, .ref o4, .ref o5, .ref o6, .ref o7, .ref o8, .ref o9, .ref o10, .int 0, .int 0, .null, .int 0, .int 45, .ref t1, .ref t2, .ref t3, .ref t4, .ref t5]))] s.heap := hP
  have hl := lv_entry ([.ref m0, .int 1]) (n := 2) (Nat.le_of_ble_eq_true rfl)
  rw [lg_entry_eq]
  generalize (lg_sl ([.ref m0, .int 1]) ++ List.replicate (2 - (lg_sl ([.ref m0, .int 1])).length) Slot.unset).toArray = ls at hl ⊢
  have hl : lv_has ls 2 [(0, .ref m0), (1, .int 1)] := hl
  refine lv_aload_n hx hb dX12_isWrong_0 rfl (lv_at hl 0 rfl) ?_
  refine lv_iload_n hx hb dX12_isWrong_1 rfl (lv_at hl 1 rfl) ?_
  refine va_put (D := (dC, dI)) (ci := 12) (v := .int 1) (ty := .int) (C := RX12) (T := TX12) (N := 26) hx hb hq i_X12 tyX12 tyX12_ok nmX12 hown hK hP hD hS 0 rfl rfl 0 (by decide) (hq _ q_1304) (fun _ h9 => h9) rfl (by decide +kernel) rfl rfl (Nat.le_of_ble_eq_true rfl) dX12_isWrong_2 (fun H locs hP hD hS => ?_)
  have hP : va_P (dC, dI) cls [(m0, .inr (12, [.int 1, .ref lr, .ref ld, .ref o1, .int (-1), .int (-1), .int 0, .ref o2, .ref o3, .ref o4, .ref o5, .ref o6, .ref o7, .ref o8, .ref o9, .ref o10, .int 0, .int 0, .null, .int 0, .int 45, .ref t1, .ref t2, .ref t3, .ref t4, .ref t5]))] H := hP
  have hD : va_D A [(m0, .inr (12, [.int 1, .ref lr, .ref ld, .ref o1, .int (-1), .int (-1), .int 0, .ref o2, .ref o3, .ref o4, .ref o5, .ref o6, .ref o7, .ref o8, .ref o9, .ref o10, .int 0, .int 0, .null, .int 0, .int 45, .ref t1, .ref t2, .ref t3, .ref t4, .ref t5]))] := hD
  refine lv_iload_n hx hb dX12_isWrong_5 rfl (lv_at hl 1 rfl) ?_
  refine lv_if_le (tgt := 13) hx hb dX12_isWrong_6 (by decide) (fun c_1 => ?_) (fun c_1 => ?_)
  · exact absurd c_1 (by decide)
  · refine lv_iconst (v := 1) hx hb dX12_isWrong_9 (by decide) ?_
    refine lv_goto (tgt := 14) hx hb dX12_isWrong_10 (by decide) ?_
    refine W.widen (k := 0) (n := 0) (Nat.le_of_ble_eq_true rfl) (Nat.le_of_ble_eq_true rfl) ?_
    have hP9 := hP.sub (ws' := [(m0, .inr (12, [.int 1, .ref lr, .ref ld, .ref o1, .int (-1), .int (-1), .int 0, .ref o2, .ref o3, .ref o4, .ref o5, .ref o6, .ref o7, .ref o8, .ref o9, .ref o10, .int 0, .int 0, .null, .int 0, .int 45, .ref t1, .ref t2, .ref t3, .ref t4, .ref t5]))]) [0] rfl
    have hD9 := hD.sub (ws' := [(m0, .inr (12, [.int 1, .ref lr, .ref ld, .ref o1, .int (-1), .int (-1), .int 0, .ref o2, .ref o3, .ref o4, .ref o5, .ref o6, .ref o7, .ref o8, .ref o9, .ref o10, .int 0, .int 0, .null, .int 0, .int 45, .ref t1, .ref t2, .ref t3, .ref t4, .ref t5]))]) [0] (by decide) rfl
    have hK9 := hK.sub (tys' := []) [] rfl
    exact W.zret (v := 1) hx hb hr (by decide) (fun t ht hW => ⟨⟨1, (), rfl, rfl, ⟨by rw [ht]; exact hP9, va_K.moved hW.alike hK9, hD9⟩⟩, hS.F ht⟩) hS.2.2 dX12_isWrong_14
set_option maxHeartbeats 4000000 in
set_option maxRecDepth 100000 in
theorem c_isWrong2 (l : Launch) (hst : l.stackTraces = false) (tE : Nat) (adK adV : Nat → Nat) (dC : Nat → ClassId) (dI : Nat → Nat → Nat) (m0 : Nat) (lr : Nat) (ld : Nat) (o1 : Nat) (o2 : Nat) (o3 : Nat) (o4 : Nat) (o5 : Nat) (o6 : Nat) (o7 : Nat) (o8 : Nat) (o9 : Nat) (o10 : Nat) (t1 : Nat) (t2 : Nat) (t3 : Nat) (t4 : Nat) (t5 : Nat) (th : Int32) (sz : Nat) : Met l yX12_isWrong (Cond.code yX12_isWrong cX12_isWrong 2 (some .boolean) :: tw) ({ frames := 0, cells := 0, slots := 0, locals := 0 }) (va_Pc [.ref m0, .int 2] (pre tE adK adV (dC, dI) [(m0, .inr (12, [.int th, .ref lr, .ref ld, .ref o1, .int (-1), .int (-1), .int 0, .ref o2, .ref o3, .ref o4, .ref o5, .ref o6, .ref o7, .ref o8, .ref o9, .ref o10, .int 0, .int 0, .null, .int 0, .int 45, .ref t1, .ref t2, .ref t3, .ref t4, .ref t5]))] [] sz)) (va_Qi (fun (r : Int32) (_ : Unit) => r = 1) (fun (_ : Unit) (t : State) => va_P (dC, dI) cls [(m0, .inr (12, [.int 2, .ref lr, .ref ld, .ref o1, .int (-1), .int (-1), .int 0, .ref o2, .ref o3, .ref o4, .ref o5, .ref o6, .ref o7, .ref o8, .ref o9, .ref o10, .int 0, .int 0, .null, .int 0, .int 45, .ref t1, .ref t2, .ref t3, .ref t4, .ref t5]))] t.heap ∧ va_K (dC, dI) cls [] t ∧ va_D (va_A [(m0, .inr (12, [.int th, .ref lr, .ref ld, .ref o1, .int (-1), .int (-1), .int 0, .ref o2, .ref o3, .ref o4, .ref o5, .ref o6, .ref o7, .ref o8, .ref o9, .ref o10, .int 0, .int 0, .null, .int 0, .int 45, .ref t1, .ref t2, .ref t3, .ref t4, .ref t5]))] sz) [(m0, .inr (12, [.int 2, .ref lr, .ref ld, .ref o1, .int (-1), .int (-1), .int 0, .ref o2, .ref o3, .ref o4, .ref o5, .ref o6, .ref o7, .ref o8, .ref o9, .ref o10, .int 0, .int 0, .null, .int 0, .int 45, .ref t1, .ref t2, .ref t3, .ref t4, .ref t5]))]) (va_A [(m0, .inr (12, [.int th, .ref lr, .ref ld, .ref o1, .int (-1), .int (-1), .int 0, .ref o2, .ref o3, .ref o4, .ref o5, .ref o6, .ref o7, .ref o8, .ref o9, .ref o10, .int 0, .int 0, .null, .int 0, .int 45, .ref t1, .ref t2, .ref t3, .ref t4, .ref t5]))] sz)) 0 0 (va_A [(m0, .inr (12, [.int th, .ref lr, .ref ld, .ref o1, .int (-1), .int (-1), .int 0, .ref o2, .ref o3, .ref o4, .ref o5, .ref o6, .ref o7, .ref o8, .ref o9, .ref o10, .int 0, .int 0, .null, .int 0, .int 45, .ref t1, .ref t2, .ref t3, .ref t4, .ref t5]))] sz) := by
  refine Met.ofW (cc := cX12_isWrong) (maxL := 2) (ret := (some .boolean)) (by decide) rfl ?_
  intro p e s m args below meth c s₁ B hml hv
  obtain ⟨rfl, hsz, hP, hK, hD0, ham⟩ := hv
  have hx := B.exec
  have hb := B.bytes
  have hr := B.returns
  have hts := atoms_spec B.pre
  have hq : ∀ w ∈ tw, w.before _ s = true := fun w h => hts w (List.mem_cons_of_mem _ h)
  have hown : s.vm.findClass RX12 = some m.cls := findClass_of_methodNamed B.named
  have hlocks := B.notSynchronized
  subst hsz
  have hD := hD0.self (sz := s.heap.size)
  generalize hAe : va_A [(m0, .inr (12, [.int th, .ref lr, .ref ld, .ref o1, .int (-1), .int (-1), .int 0, .ref o2, .ref o3, .ref o4, .ref o5, .ref o6, .ref o7, .ref o8, .ref o9, .ref o10, .int 0, .int 0, .null, .int 0, .int 45, .ref t1, .ref t2, .ref t3, .ref t4, .ref t5]))] s.heap.size = A at hD ham ⊢
  have hA : ∀ q : Nat, s.heap.size ≤ q → A q := fun q h => by rw [← hAe]; exact Or.inr h
  have hS : va_S A s.heap s.heap [] := va_S.rf
  have hP : va_P (dC, dI) cls [(m0, .inr (12, [.int th, .ref lr, .ref ld, .ref o1, .int (-1), .int (-1), .int 0, .ref o2, .ref o3, .ref o4, .ref o5, .ref o6, .ref o7, .ref o8, .ref o9, .ref o10, .int 0, .int 0, .null, .int 0, .int 45, .ref t1, .ref t2, .ref t3, .ref t4, .ref t5]))] s.heap := hP
  have hl := lv_entry ([.ref m0, .int 2]) (n := 2) (Nat.le_of_ble_eq_true rfl)
  rw [lg_entry_eq]
  generalize (lg_sl ([.ref m0, .int 2]) ++ List.replicate (2 - (lg_sl ([.ref m0, .int 2])).length) Slot.unset).toArray = ls at hl ⊢
  have hl : lv_has ls 2 [(0, .ref m0), (1, .int 2)] := hl
  refine lv_aload_n hx hb dX12_isWrong_0 rfl (lv_at hl 0 rfl) ?_
  refine lv_iload_n hx hb dX12_isWrong_1 rfl (lv_at hl 1 rfl) ?_
  refine va_put (D := (dC, dI)) (ci := 12) (v := .int 2) (ty := .int) (C := RX12) (T := TX12) (N := 26) hx hb hq i_X12 tyX12 tyX12_ok nmX12 hown hK hP hD hS 0 rfl rfl 0 (by decide) (hq _ q_1304) (fun _ h9 => h9) rfl (by decide +kernel) rfl rfl (Nat.le_of_ble_eq_true rfl) dX12_isWrong_2 (fun H locs hP hD hS => ?_)
  have hP : va_P (dC, dI) cls [(m0, .inr (12, [.int 2, .ref lr, .ref ld, .ref o1, .int (-1), .int (-1), .int 0, .ref o2, .ref o3, .ref o4, .ref o5, .ref o6, .ref o7, .ref o8, .ref o9, .ref o10, .int 0, .int 0, .null, .int 0, .int 45, .ref t1, .ref t2, .ref t3, .ref t4, .ref t5]))] H := hP
  have hD : va_D A [(m0, .inr (12, [.int 2, .ref lr, .ref ld, .ref o1, .int (-1), .int (-1), .int 0, .ref o2, .ref o3, .ref o4, .ref o5, .ref o6, .ref o7, .ref o8, .ref o9, .ref o10, .int 0, .int 0, .null, .int 0, .int 45, .ref t1, .ref t2, .ref t3, .ref t4, .ref t5]))] := hD
  refine lv_iload_n hx hb dX12_isWrong_5 rfl (lv_at hl 1 rfl) ?_
  refine lv_if_le (tgt := 13) hx hb dX12_isWrong_6 (by decide) (fun c_1 => ?_) (fun c_1 => ?_)
  · exact absurd c_1 (by decide)
  · refine lv_iconst (v := 1) hx hb dX12_isWrong_9 (by decide) ?_
    refine lv_goto (tgt := 14) hx hb dX12_isWrong_10 (by decide) ?_
    refine W.widen (k := 0) (n := 0) (Nat.le_of_ble_eq_true rfl) (Nat.le_of_ble_eq_true rfl) ?_
    have hP9 := hP.sub (ws' := [(m0, .inr (12, [.int 2, .ref lr, .ref ld, .ref o1, .int (-1), .int (-1), .int 0, .ref o2, .ref o3, .ref o4, .ref o5, .ref o6, .ref o7, .ref o8, .ref o9, .ref o10, .int 0, .int 0, .null, .int 0, .int 45, .ref t1, .ref t2, .ref t3, .ref t4, .ref t5]))]) [0] rfl
    have hD9 := hD.sub (ws' := [(m0, .inr (12, [.int 2, .ref lr, .ref ld, .ref o1, .int (-1), .int (-1), .int 0, .ref o2, .ref o3, .ref o4, .ref o5, .ref o6, .ref o7, .ref o8, .ref o9, .ref o10, .int 0, .int 0, .null, .int 0, .int 45, .ref t1, .ref t2, .ref t3, .ref t4, .ref t5]))]) [0] (by decide) rfl
    have hK9 := hK.sub (tys' := []) [] rfl
    exact W.zret (v := 1) hx hb hr (by decide) (fun t ht hW => ⟨⟨1, (), rfl, rfl, ⟨by rw [ht]; exact hP9, va_K.moved hW.alike hK9, hD9⟩⟩, hS.F ht⟩) hS.2.2 dX12_isWrong_14
set_option maxHeartbeats 4000000 in
set_option maxRecDepth 100000 in
theorem c_isWrong3 (l : Launch) (hst : l.stackTraces = false) (tE : Nat) (adK adV : Nat → Nat) (dC : Nat → ClassId) (dI : Nat → Nat → Nat) (m0 : Nat) (lr : Nat) (ld : Nat) (o1 : Nat) (o2 : Nat) (o3 : Nat) (o4 : Nat) (o5 : Nat) (o6 : Nat) (o7 : Nat) (o8 : Nat) (o9 : Nat) (o10 : Nat) (t1 : Nat) (t2 : Nat) (t3 : Nat) (t4 : Nat) (t5 : Nat) (th : Int32) (sz : Nat) : Met l yX12_isWrong (Cond.code yX12_isWrong cX12_isWrong 2 (some .boolean) :: tw) ({ frames := 0, cells := 0, slots := 0, locals := 0 }) (va_Pc [.ref m0, .int 3] (pre tE adK adV (dC, dI) [(m0, .inr (12, [.int th, .ref lr, .ref ld, .ref o1, .int (-1), .int (-1), .int 0, .ref o2, .ref o3, .ref o4, .ref o5, .ref o6, .ref o7, .ref o8, .ref o9, .ref o10, .int 0, .int 0, .null, .int 0, .int 45, .ref t1, .ref t2, .ref t3, .ref t4, .ref t5]))] [] sz)) (va_Qi (fun (r : Int32) (_ : Unit) => r = 1) (fun (_ : Unit) (t : State) => va_P (dC, dI) cls [(m0, .inr (12, [.int 3, .ref lr, .ref ld, .ref o1, .int (-1), .int (-1), .int 0, .ref o2, .ref o3, .ref o4, .ref o5, .ref o6, .ref o7, .ref o8, .ref o9, .ref o10, .int 0, .int 0, .null, .int 0, .int 45, .ref t1, .ref t2, .ref t3, .ref t4, .ref t5]))] t.heap ∧ va_K (dC, dI) cls [] t ∧ va_D (va_A [(m0, .inr (12, [.int th, .ref lr, .ref ld, .ref o1, .int (-1), .int (-1), .int 0, .ref o2, .ref o3, .ref o4, .ref o5, .ref o6, .ref o7, .ref o8, .ref o9, .ref o10, .int 0, .int 0, .null, .int 0, .int 45, .ref t1, .ref t2, .ref t3, .ref t4, .ref t5]))] sz) [(m0, .inr (12, [.int 3, .ref lr, .ref ld, .ref o1, .int (-1), .int (-1), .int 0, .ref o2, .ref o3, .ref o4, .ref o5, .ref o6, .ref o7, .ref o8, .ref o9, .ref o10, .int 0, .int 0, .null, .int 0, .int 45, .ref t1, .ref t2, .ref t3, .ref t4, .ref t5]))]) (va_A [(m0, .inr (12, [.int th, .ref lr, .ref ld, .ref o1, .int (-1), .int (-1), .int 0, .ref o2, .ref o3, .ref o4, .ref o5, .ref o6, .ref o7, .ref o8, .ref o9, .ref o10, .int 0, .int 0, .null, .int 0, .int 45, .ref t1, .ref t2, .ref t3, .ref t4, .ref t5]))] sz)) 0 0 (va_A [(m0, .inr (12, [.int th, .ref lr, .ref ld, .ref o1, .int (-1), .int (-1), .int 0, .ref o2, .ref o3, .ref o4, .ref o5, .ref o6, .ref o7, .ref o8, .ref o9, .ref o10, .int 0, .int 0, .null, .int 0, .int 45, .ref t1, .ref t2, .ref t3, .ref t4, .ref t5]))] sz) := by
  refine Met.ofW (cc := cX12_isWrong) (maxL := 2) (ret := (some .boolean)) (by decide) rfl ?_
  intro p e s m args below meth c s₁ B hml hv
  obtain ⟨rfl, hsz, hP, hK, hD0, ham⟩ := hv
  have hx := B.exec
  have hb := B.bytes
  have hr := B.returns
  have hts := atoms_spec B.pre
  have hq : ∀ w ∈ tw, w.before _ s = true := fun w h => hts w (List.mem_cons_of_mem _ h)
  have hown : s.vm.findClass RX12 = some m.cls := findClass_of_methodNamed B.named
  have hlocks := B.notSynchronized
  subst hsz
  have hD := hD0.self (sz := s.heap.size)
  generalize hAe : va_A [(m0, .inr (12, [.int th, .ref lr, .ref ld, .ref o1, .int (-1), .int (-1), .int 0, .ref o2, .ref o3, .ref o4, .ref o5, .ref o6, .ref o7, .ref o8, .ref o9, .ref o10, .int 0, .int 0, .null, .int 0, .int 45, .ref t1, .ref t2, .ref t3, .ref t4, .ref t5]))] s.heap.size = A at hD ham ⊢
  have hA : ∀ q : Nat, s.heap.size ≤ q → A q := fun q h => by rw [← hAe]; exact Or.inr h
  have hS : va_S A s.heap s.heap [] := va_S.rf
  have hP : va_P (dC, dI) cls [(m0, .inr (12, [.int th, .ref lr, .ref ld, .ref o1, .int (-1), .int (-1), .int 0, .ref o2, .ref o3, .ref o4, .ref o5, .ref o6, .ref o7, .ref o8, .ref o9, .ref o10, .int 0, .int 0, .null, .int 0, .int 45, .ref t1, .ref t2, .ref t3, .ref t4, .ref t5]))] s.heap := hP
  have hl := lv_entry ([.ref m0, .int 3]) (n := 2) (Nat.le_of_ble_eq_true rfl)
  rw [lg_entry_eq]
  generalize (lg_sl ([.ref m0, .int 3]) ++ List.replicate (2 - (lg_sl ([.ref m0, .int 3])).length) Slot.unset).toArray = ls at hl ⊢
  have hl : lv_has ls 2 [(0, .ref m0), (1, .int 3)] := hl
  refine lv_aload_n hx hb dX12_isWrong_0 rfl (lv_at hl 0 rfl) ?_
  refine lv_iload_n hx hb dX12_isWrong_1 rfl (lv_at hl 1 rfl) ?_
  refine va_put (D := (dC, dI)) (ci := 12) (v := .int 3) (ty := .int) (C := RX12) (T := TX12) (N := 26) hx hb hq i_X12 tyX12 tyX12_ok nmX12 hown hK hP hD hS 0 rfl rfl 0 (by decide) (hq _ q_1304) (fun _ h9 => h9) rfl (by decide +kernel) rfl rfl (Nat.le_of_ble_eq_true rfl) dX12_isWrong_2 (fun H locs hP hD hS => ?_)
  have hP : va_P (dC, dI) cls [(m0, .inr (12, [.int 3, .ref lr, .ref ld, .ref o1, .int (-1), .int (-1), .int 0, .ref o2, .ref o3, .ref o4, .ref o5, .ref o6, .ref o7, .ref o8, .ref o9, .ref o10, .int 0, .int 0, .null, .int 0, .int 45, .ref t1, .ref t2, .ref t3, .ref t4, .ref t5]))] H := hP
  have hD : va_D A [(m0, .inr (12, [.int 3, .ref lr, .ref ld, .ref o1, .int (-1), .int (-1), .int 0, .ref o2, .ref o3, .ref o4, .ref o5, .ref o6, .ref o7, .ref o8, .ref o9, .ref o10, .int 0, .int 0, .null, .int 0, .int 45, .ref t1, .ref t2, .ref t3, .ref t4, .ref t5]))] := hD
  refine lv_iload_n hx hb dX12_isWrong_5 rfl (lv_at hl 1 rfl) ?_
  refine lv_if_le (tgt := 13) hx hb dX12_isWrong_6 (by decide) (fun c_1 => ?_) (fun c_1 => ?_)
  · exact absurd c_1 (by decide)
  · refine lv_iconst (v := 1) hx hb dX12_isWrong_9 (by decide) ?_
    refine lv_goto (tgt := 14) hx hb dX12_isWrong_10 (by decide) ?_
    refine W.widen (k := 0) (n := 0) (Nat.le_of_ble_eq_true rfl) (Nat.le_of_ble_eq_true rfl) ?_
    have hP9 := hP.sub (ws' := [(m0, .inr (12, [.int 3, .ref lr, .ref ld, .ref o1, .int (-1), .int (-1), .int 0, .ref o2, .ref o3, .ref o4, .ref o5, .ref o6, .ref o7, .ref o8, .ref o9, .ref o10, .int 0, .int 0, .null, .int 0, .int 45, .ref t1, .ref t2, .ref t3, .ref t4, .ref t5]))]) [0] rfl
    have hD9 := hD.sub (ws' := [(m0, .inr (12, [.int 3, .ref lr, .ref ld, .ref o1, .int (-1), .int (-1), .int 0, .ref o2, .ref o3, .ref o4, .ref o5, .ref o6, .ref o7, .ref o8, .ref o9, .ref o10, .int 0, .int 0, .null, .int 0, .int 45, .ref t1, .ref t2, .ref t3, .ref t4, .ref t5]))]) [0] (by decide) rfl
    have hK9 := hK.sub (tys' := []) [] rfl
    exact W.zret (v := 1) hx hb hr (by decide) (fun t ht hW => ⟨⟨1, (), rfl, rfl, ⟨by rw [ht]; exact hP9, va_K.moved hW.alike hK9, hD9⟩⟩, hS.F ht⟩) hS.2.2 dX12_isWrong_14
abbrev cX12_areSeats : ByteArray := prog_13_method_8_code
def yX12_areSeats : MethodName := ⟨RX12, "areSeats", "(II)Z"⟩
theorem dX12_areSeats_0 : decode cX12_areSeats 0 = .ok (.aload_n 0, 1) := by decide +kernel
theorem dX12_areSeats_1 : decode cX12_areSeats 1 = .ok (.getfield 26, 3) := by decide +kernel
theorem dX12_areSeats_4 : decode cX12_areSeats 4 = .ok (.iload_n 1, 1) := by decide +kernel
theorem dX12_areSeats_5 : decode cX12_areSeats 5 = .ok (.invokestatic 123, 3) := by decide +kernel
theorem q_1599 : (Cond.code yX12_isOf cX12_isOf 2 (some .boolean)) ∈ tw := tw_in (i := 1599) (by decide +kernel) (by decide +kernel)
theorem q_12 : (Cond.initialized "NightfallVillageModel") ∈ tw := tw_in (i := 12) (by decide +kernel) (by decide +kernel)
theorem q_1597 : (Cond.methodLink "NightfallVillageModel" 123 yX12_isOf) ∈ tw := tw_in (i := 1597) (by decide +kernel) (by decide +kernel)
theorem q_1598 : (Cond.static yX12_isOf) ∈ tw := tw_in (i := 1598) (by decide +kernel) (by decide +kernel)
theorem dX12_areSeats_8 : decode cX12_areSeats 8 = .ok (.ifCond .eq 18, 3) := by decide +kernel
theorem dX12_areSeats_26 : decode cX12_areSeats 26 = .ok (.iconst 0, 1) := by decide +kernel
theorem dX12_areSeats_27 : decode cX12_areSeats 27 = .ok (.ireturn, 1) := by decide +kernel
set_option maxHeartbeats 4000000 in
set_option maxRecDepth 100000 in
theorem c_areSeats (l : Launch) (hst : l.stackTraces = false) (tE : Nat) (adK adV : Nat → Nat) (dC : Nat → ClassId) (dI : Nat → Nat → Nat) (m0 : Nat) (lr : Nat) (ld : Nat) (o1 : Nat) (o2 : Nat) (o3 : Nat) (o4 : Nat) (o5 : Nat) (o6 : Nat) (o7 : Nat) (o8 : Nat) (o9 : Nat) (o10 : Nat) (t1 : Nat) (t2 : Nat) (t3 : Nat) (t4 : Nat) (t5 : Nat) (th : Int32) (p1 : Int32) (p2 : Int32) (sz : Nat) : Met l yX12_areSeats (Cond.code yX12_areSeats cX12_areSeats 3 (some .boolean) :: tw) ({ frames := 2, cells := 0, slots := 0, locals := 41 }) (va_Pc [.ref m0, .int p1, .int p2] (preR tE adK adV (dC, dI) [(m0, .inr (12, [.int th, .ref lr, .ref ld, .ref o1, .int (-1), .int (-1), .int 0, .ref o2, .ref o3, .ref o4, .ref o5, .ref o6, .ref o7, .ref o8, .ref o9, .ref o10, .int 0, .int 0, .null, .int 0, .int 45, .ref t1, .ref t2, .ref t3, .ref t4, .ref t5])), (ld, .inr (14, [.int 0, .ref tE, .int 0]))] [] sz)) (va_Qi (fun (r : Int32) (_ : Unit) => r = 0) (fun (_ : Unit) (_ : State) => True) (fun q : Nat => sz ≤ q)) 0 0 (fun q : Nat => sz ≤ q) := by
  refine Met.ofW (cc := cX12_areSeats) (maxL := 3) (ret := (some .boolean)) (by decide) rfl ?_
  intro p e s m args below meth c s₁ B hml hv
  obtain ⟨rfl, hsz, hP, hK, ham⟩ := hv
  have hx := B.exec
  have hb := B.bytes
  have hr := B.returns
  have hts := atoms_spec B.pre
  have hq : ∀ w ∈ tw, w.before _ s = true := fun w h => hts w (List.mem_cons_of_mem _ h)
  have hown : s.vm.findClass RX12 = some m.cls := findClass_of_methodNamed B.named
  have hlocks := B.notSynchronized
  subst hsz
  generalize hAe : (fun q : Nat => s.heap.size ≤ q) = A at ham ⊢
  have hA : ∀ q : Nat, s.heap.size ≤ q → A q := fun q h => by rw [← hAe]; exact h
  have hS : va_S A s.heap s.heap [] := va_S.rf
  have hP : va_P (dC, dI) cls [(m0, .inr (12, [.int th, .ref lr, .ref ld, .ref o1, .int (-1), .int (-1), .int 0, .ref o2, .ref o3, .ref o4, .ref o5, .ref o6, .ref o7, .ref o8, .ref o9, .ref o10, .int 0, .int 0, .null, .int 0, .int 45, .ref t1, .ref t2, .ref t3, .ref t4, .ref t5])), (ld, .inr (14, [.int 0, .ref tE, .int 0]))] s.heap := hP
  have hl := lv_entry ([.ref m0, .int p1, .int p2]) (n := 3) (Nat.le_of_ble_eq_true rfl)
  rw [lg_entry_eq]
  generalize (lg_sl ([.ref m0, .int p1, .int p2]) ++ List.replicate (3 - (lg_sl ([.ref m0, .int p1, .int p2])).length) Slot.unset).toArray = ls at hl ⊢
  have hl : lv_has ls 3 [(0, .ref m0), (1, .int p1), (2, .int p2)] := hl
  refine lv_aload_n hx hb dX12_areSeats_0 rfl (lv_at hl 0 rfl) ?_
  refine va_get (D := (dC, dI)) (ci := 12) (v := .ref ld) (C := RX12) (T := TX12) (N := 26) hx hb hq i_X12 hown hK hP 0 rfl rfl 2 (by decide) (hq _ q_1306) (fun _ h9 => h9) rfl dX12_areSeats_1 ?_
  refine lv_iload_n hx hb dX12_areSeats_4 rfl (lv_at hl 1 rfl) ?_
  have hPc := hP.sub (ws' := [(ld, .inr (14, [.int 0, .ref tE, .int 0]))]) [1] rfl
  have hKc := hK.sub (tys' := []) [] rfl
  refine va_calli (va_runS (As := [.ref ld, .int p1]) (rest := []) ⟨hx, hb, hml, hown, hq⟩ (c_isOf l hst tE adK adV dC dI ld p1 s.heap.size) (tcS 2 hq q_1599 q_12 q_1597 q_1598 rfl rfl (by decide +kernel) ⟨Nat.le_of_ble_eq_true rfl, Nat.le_of_ble_eq_true rfl⟩) (preR.S (preR.of hPc hKc ham hS hA)) rfl rfl hl.1 rfl (lv_room (Nat.le_of_ble_eq_true rfl)) dX12_areSeats_5 ⟨Nat.le_of_ble_eq_true rfl, Nat.le_of_ble_eq_true rfl⟩) hS (fun q _ h => hA q (Nat.le_trans hS.1 h)) (fun q h => hA q (Nat.le_trans hS.1 h)) (fun r_1 u t H1 locs ht hvm hw hB hz1 hk1 hS => ?_)
  have hP : va_P (dC, dI) cls [(m0, .inr (12, [.int th, .ref lr, .ref ld, .ref o1, .int (-1), .int (-1), .int 0, .ref o2, .ref o3, .ref o4, .ref o5, .ref o6, .ref o7, .ref o8, .ref o9, .ref o10, .int 0, .int 0, .null, .int 0, .int 45, .ref t1, .ref t2, .ref t3, .ref t4, .ref t5])), (ld, .inr (14, [.int 0, .ref tE, .int 0]))] H1 := ro_keep hP hk1
  generalize H1 = H at hP hS ⊢
  refine W.widen (k := 0) (n := 0) (Nat.le_of_ble_eq_true rfl) (Nat.le_of_ble_eq_true rfl) ?_
  have hw : r_1 = 0 := hw
  subst hw
  refine lv_if_eq (tgt := 26) hx hb dX12_areSeats_8 (by decide) (fun c_2 => ?_) (fun c_2 => ?_)
  · refine lv_iconst (v := 0) hx hb dX12_areSeats_26 (by decide) ?_
    refine W.widen (k := 0) (n := 0) (Nat.le_of_ble_eq_true rfl) (Nat.le_of_ble_eq_true rfl) ?_
    exact W.zret (v := 0) hx hb hr (by decide) (fun t ht hW => ⟨⟨0, (), rfl, rfl, trivial⟩, hS.F ht⟩) hS.2.2 dX12_areSeats_27
  · exact absurd c_2 (by decide)
abbrev cX12_isOn : ByteArray := prog_13_method_14_code
def yX12_isOn : MethodName := ⟨RX12, "isOn", "()Z"⟩
theorem dX12_isOn_0 : decode cX12_isOn 0 = .ok (.aload_n 0, 1) := by decide +kernel
theorem dX12_isOn_1 : decode cX12_isOn 1 = .ok (.getfield 106, 3) := by decide +kernel
theorem q_1310 : (Cond.fieldLink "NightfallVillageModel" 106 "NightfallVillageModel" "hasBegun" "Z") ∈ tw := tw_in (i := 1310) (by decide +kernel) (by decide +kernel)
theorem dX12_isOn_4 : decode cX12_isOn 4 = .ok (.ifCond .eq 14, 3) := by decide +kernel
theorem dX12_isOn_18 : decode cX12_isOn 18 = .ok (.iconst 0, 1) := by decide +kernel
theorem dX12_isOn_19 : decode cX12_isOn 19 = .ok (.ireturn, 1) := by decide +kernel
set_option maxHeartbeats 4000000 in
set_option maxRecDepth 100000 in
theorem c_isOn (l : Launch) (hst : l.stackTraces = false) (tE : Nat) (adK adV : Nat → Nat) (dC : Nat → ClassId) (dI : Nat → Nat → Nat) (m0 : Nat) (lr : Nat) (ld : Nat) (o1 : Nat) (o2 : Nat) (o3 : Nat) (o4 : Nat) (o5 : Nat) (o6 : Nat) (o7 : Nat) (o8 : Nat) (o9 : Nat) (o10 : Nat) (t1 : Nat) (t2 : Nat) (t3 : Nat) (t4 : Nat) (t5 : Nat) (th : Int32) (sz : Nat) : Met l yX12_isOn (Cond.code yX12_isOn cX12_isOn 1 (some .boolean) :: tw) ({ frames := 0, cells := 0, slots := 0, locals := 0 }) (va_Pc [.ref m0] (preR tE adK adV (dC, dI) [(m0, .inr (12, [.int th, .ref lr, .ref ld, .ref o1, .int (-1), .int (-1), .int 0, .ref o2, .ref o3, .ref o4, .ref o5, .ref o6, .ref o7, .ref o8, .ref o9, .ref o10, .int 0, .int 0, .null, .int 0, .int 45, .ref t1, .ref t2, .ref t3, .ref t4, .ref t5]))] [] sz)) (va_Qi (fun (r : Int32) (_ : Unit) => r = 0) (fun (_ : Unit) (_ : State) => True) (fun q : Nat => sz ≤ q)) 0 0 (fun q : Nat => sz ≤ q) := by
  refine Met.ofW (cc := cX12_isOn) (maxL := 1) (ret := (some .boolean)) (by decide) rfl ?_
  intro p e s m args below meth c s₁ B hml hv
  obtain ⟨rfl, hsz, hP, hK, ham⟩ := hv
  have hx := B.exec
  have hb := B.bytes
  have hr := B.returns
  have hts := atoms_spec B.pre
  have hq : ∀ w ∈ tw, w.before _ s = true := fun w h => hts w (List.mem_cons_of_mem _ h)
  have hown : s.vm.findClass RX12 = some m.cls := findClass_of_methodNamed B.named
  have hlocks := B.notSynchronized
  subst hsz
  generalize hAe : (fun q : Nat => s.heap.size ≤ q) = A at ham ⊢
  have hA : ∀ q : Nat, s.heap.size ≤ q → A q := fun q h => by rw [← hAe]; exact h
  have hS : va_S A s.heap s.heap [] := va_S.rf
  have hP : va_P (dC, dI) cls [(m0, .inr (12, [.int th, .ref lr, .ref ld, .ref o1, .int (-1), .int (-1), .int 0, .ref o2, .ref o3, .ref o4, .ref o5, .ref o6, .ref o7, .ref o8, .ref o9, .ref o10, .int 0, .int 0, .null, .int 0, .int 45, .ref t1, .ref t2, .ref t3, .ref t4, .ref t5]))] s.heap := hP
  have hl := lv_entry ([.ref m0]) (n := 1) (Nat.le_of_ble_eq_true rfl)
  rw [lg_entry_eq]
  generalize (lg_sl ([.ref m0]) ++ List.replicate (1 - (lg_sl ([.ref m0])).length) Slot.unset).toArray = ls at hl ⊢
  have hl : lv_has ls 1 [(0, .ref m0)] := hl
  refine lv_aload_n hx hb dX12_isOn_0 rfl (lv_at hl 0 rfl) ?_
  refine va_get (D := (dC, dI)) (ci := 12) (v := .int 0) (C := RX12) (T := TX12) (N := 26) hx hb hq i_X12 hown hK hP 0 rfl rfl 6 (by decide) (hq _ q_1310) (fun _ h9 => h9) rfl dX12_isOn_1 ?_
  refine lv_if_eq (tgt := 18) hx hb dX12_isOn_4 (by decide) (fun c_1 => ?_) (fun c_1 => ?_)
  · refine lv_iconst (v := 0) hx hb dX12_isOn_18 (by decide) ?_
    refine W.widen (k := 0) (n := 0) (Nat.le_of_ble_eq_true rfl) (Nat.le_of_ble_eq_true rfl) ?_
    exact W.zret (v := 0) hx hb hr (by decide) (fun t ht hW => ⟨⟨0, (), rfl, rfl, trivial⟩, hS.F ht⟩) hS.2.2 dX12_isOn_19
  · exact absurd c_1 (by decide)
abbrev cX12_isOver : ByteArray := prog_13_method_13_code
def yX12_isOver : MethodName := ⟨RX12, "isOver", "()Z"⟩
theorem dX12_isOver_0 : decode cX12_isOver 0 = .ok (.aload_n 0, 1) := by decide +kernel
theorem dX12_isOver_1 : decode cX12_isOver 1 = .ok (.getfield 68, 3) := by decide +kernel
theorem dX12_isOver_4 : decode cX12_isOver 4 = .ok (.bipush 45, 2) := by decide +kernel
theorem dX12_isOver_6 : decode cX12_isOver 6 = .ok (.if_icmp .eq 7, 3) := by decide +kernel
theorem dX12_isOver_13 : decode cX12_isOver 13 = .ok (.iconst 0, 1) := by decide +kernel
theorem dX12_isOver_14 : decode cX12_isOver 14 = .ok (.ireturn, 1) := by decide +kernel
set_option maxHeartbeats 4000000 in
set_option maxRecDepth 100000 in
theorem c_isOver (l : Launch) (hst : l.stackTraces = false) (tE : Nat) (adK adV : Nat → Nat) (dC : Nat → ClassId) (dI : Nat → Nat → Nat) (m0 : Nat) (lr : Nat) (ld : Nat) (o1 : Nat) (o2 : Nat) (o3 : Nat) (o4 : Nat) (o5 : Nat) (o6 : Nat) (o7 : Nat) (o8 : Nat) (o9 : Nat) (o10 : Nat) (t1 : Nat) (t2 : Nat) (t3 : Nat) (t4 : Nat) (t5 : Nat) (th : Int32) (sz : Nat) : Met l yX12_isOver (Cond.code yX12_isOver cX12_isOver 1 (some .boolean) :: tw) ({ frames := 0, cells := 0, slots := 0, locals := 0 }) (va_Pc [.ref m0] (preR tE adK adV (dC, dI) [(m0, .inr (12, [.int th, .ref lr, .ref ld, .ref o1, .int (-1), .int (-1), .int 0, .ref o2, .ref o3, .ref o4, .ref o5, .ref o6, .ref o7, .ref o8, .ref o9, .ref o10, .int 0, .int 0, .null, .int 0, .int 45, .ref t1, .ref t2, .ref t3, .ref t4, .ref t5]))] [] sz)) (va_Qi (fun (r : Int32) (_ : Unit) => r = 0) (fun (_ : Unit) (_ : State) => True) (fun q : Nat => sz ≤ q)) 0 0 (fun q : Nat => sz ≤ q) := by
  refine Met.ofW (cc := cX12_isOver) (maxL := 1) (ret := (some .boolean)) (by decide) rfl ?_
  intro p e s m args below meth c s₁ B hml hv
  obtain ⟨rfl, hsz, hP, hK, ham⟩ := hv
  have hx := B.exec
  have hb := B.bytes
  have hr := B.returns
  have hts := atoms_spec B.pre
  have hq : ∀ w ∈ tw, w.before _ s = true := fun w h => hts w (List.mem_cons_of_mem _ h)
  have hown : s.vm.findClass RX12 = some m.cls := findClass_of_methodNamed B.named
  have hlocks := B.notSynchronized
  subst hsz
  generalize hAe : (fun q : Nat => s.heap.size ≤ q) = A at ham ⊢
  have hA : ∀ q : Nat, s.heap.size ≤ q → A q := fun q h => by rw [← hAe]; exact h
  have hS : va_S A s.heap s.heap [] := va_S.rf
  have hP : va_P (dC, dI) cls [(m0, .inr (12, [.int th, .ref lr, .ref ld, .ref o1, .int (-1), .int (-1), .int 0, .ref o2, .ref o3, .ref o4, .ref o5, .ref o6, .ref o7, .ref o8, .ref o9, .ref o10, .int 0, .int 0, .null, .int 0, .int 45, .ref t1, .ref t2, .ref t3, .ref t4, .ref t5]))] s.heap := hP
  have hl := lv_entry ([.ref m0]) (n := 1) (Nat.le_of_ble_eq_true rfl)
  rw [lg_entry_eq]
  generalize (lg_sl ([.ref m0]) ++ List.replicate (1 - (lg_sl ([.ref m0])).length) Slot.unset).toArray = ls at hl ⊢
  have hl : lv_has ls 1 [(0, .ref m0)] := hl
  refine lv_aload_n hx hb dX12_isOver_0 rfl (lv_at hl 0 rfl) ?_
  refine va_get (D := (dC, dI)) (ci := 12) (v := .int 45) (C := RX12) (T := TX12) (N := 26) hx hb hq i_X12 hown hK hP 0 rfl rfl 20 (by decide) (hq _ q_1324) (fun _ h9 => h9) rfl dX12_isOver_1 ?_
  refine lv_bipush (v := 45) hx hb dX12_isOver_4 (by decide) ?_
  refine lv_icmp_eq (tgt := 13) hx hb dX12_isOver_6 (by decide) (fun c_1 => ?_) (fun c_1 => ?_)
  · refine lv_iconst (v := 0) hx hb dX12_isOver_13 (by decide) ?_
    refine W.widen (k := 0) (n := 0) (Nat.le_of_ble_eq_true rfl) (Nat.le_of_ble_eq_true rfl) ?_
    exact W.zret (v := 0) hx hb hr (by decide) (fun t ht hW => ⟨⟨0, (), rfl, rfl, trivial⟩, hS.F ht⟩) hS.2.2 dX12_isOver_14
  · exact absurd c_1 (by decide)
abbrev cX12_thrown : ByteArray := prog_13_method_1_code
def yX12_thrown : MethodName := ⟨RX12, "thrown", "()I"⟩
theorem dX12_thrown_0 : decode cX12_thrown 0 = .ok (.aload_n 0, 1) := by decide +kernel
theorem dX12_thrown_1 : decode cX12_thrown 1 = .ok (.getfield 1, 3) := by decide +kernel
theorem dX12_thrown_4 : decode cX12_thrown 4 = .ok (.ireturn, 1) := by decide +kernel
set_option maxHeartbeats 4000000 in
set_option maxRecDepth 100000 in
theorem c_thrown (l : Launch) (hst : l.stackTraces = false) (tE : Nat) (adK adV : Nat → Nat) (dC : Nat → ClassId) (dI : Nat → Nat → Nat) (m0 : Nat) (lr : Nat) (ld : Nat) (o1 : Nat) (o2 : Nat) (o3 : Nat) (o4 : Nat) (o5 : Nat) (o6 : Nat) (o7 : Nat) (o8 : Nat) (o9 : Nat) (o10 : Nat) (t1 : Nat) (t2 : Nat) (t3 : Nat) (t4 : Nat) (t5 : Nat) (th : Int32) (sz : Nat) : Met l yX12_thrown (Cond.code yX12_thrown cX12_thrown 1 (some .int) :: tw) ({ frames := 0, cells := 0, slots := 0, locals := 0 }) (va_Pc [.ref m0] (preR tE adK adV (dC, dI) [(m0, .inr (12, [.int th, .ref lr, .ref ld, .ref o1, .int (-1), .int (-1), .int 0, .ref o2, .ref o3, .ref o4, .ref o5, .ref o6, .ref o7, .ref o8, .ref o9, .ref o10, .int 0, .int 0, .null, .int 0, .int 45, .ref t1, .ref t2, .ref t3, .ref t4, .ref t5]))] [] sz)) (va_Qi (fun (r : Int32) (_ : Unit) => r = th) (fun (_ : Unit) (_ : State) => True) (fun q : Nat => sz ≤ q)) 0 0 (fun q : Nat => sz ≤ q) := by
  refine Met.ofW (cc := cX12_thrown) (maxL := 1) (ret := (some .int)) (by decide) rfl ?_
  intro p e s m args below meth c s₁ B hml hv
  obtain ⟨rfl, hsz, hP, hK, ham⟩ := hv
  have hx := B.exec
  have hb := B.bytes
  have hr := B.returns
  have hts := atoms_spec B.pre
  have hq : ∀ w ∈ tw, w.before _ s = true := fun w h => hts w (List.mem_cons_of_mem _ h)
  have hown : s.vm.findClass RX12 = some m.cls := findClass_of_methodNamed B.named
  have hlocks := B.notSynchronized
  subst hsz
  generalize hAe : (fun q : Nat => s.heap.size ≤ q) = A at ham ⊢
  have hA : ∀ q : Nat, s.heap.size ≤ q → A q := fun q h => by rw [← hAe]; exact h
  have hS : va_S A s.heap s.heap [] := va_S.rf
  have hP : va_P (dC, dI) cls [(m0, .inr (12, [.int th, .ref lr, .ref ld, .ref o1, .int (-1), .int (-1), .int 0, .ref o2, .ref o3, .ref o4, .ref o5, .ref o6, .ref o7, .ref o8, .ref o9, .ref o10, .int 0, .int 0, .null, .int 0, .int 45, .ref t1, .ref t2, .ref t3, .ref t4, .ref t5]))] s.heap := hP
  have hl := lv_entry ([.ref m0]) (n := 1) (Nat.le_of_ble_eq_true rfl)
  rw [lg_entry_eq]
  generalize (lg_sl ([.ref m0]) ++ List.replicate (1 - (lg_sl ([.ref m0])).length) Slot.unset).toArray = ls at hl ⊢
  have hl : lv_has ls 1 [(0, .ref m0)] := hl
  refine lv_aload_n hx hb dX12_thrown_0 rfl (lv_at hl 0 rfl) ?_
  refine va_get (D := (dC, dI)) (ci := 12) (v := .int th) (C := RX12) (T := TX12) (N := 26) hx hb hq i_X12 hown hK hP 0 rfl rfl 0 (by decide) (hq _ q_1304) (fun _ h9 => h9) rfl dX12_thrown_1 ?_
  refine W.widen (k := 0) (n := 0) (Nat.le_of_ble_eq_true rfl) (Nat.le_of_ble_eq_true rfl) ?_
  exact W.iret (v := th) hx hb hr (fun t ht hW => ⟨⟨th, (), rfl, (by rfl), trivial⟩, hS.F ht⟩) hS.2.2 dX12_thrown_4
