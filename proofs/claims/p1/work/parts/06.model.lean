def RJxa1e45 : String := "java/util/AbstractCollection"
abbrev cJxa1e45_init_da8c8 : ByteArray := prog_38_method_1_code
def yJxa1e45_init_da8c8 : MethodName := ⟨RJxa1e45, "<init>", "()V"⟩
theorem dJxa1e45_init_da8c8_0 : decode cJxa1e45_init_da8c8 0 = .ok (.aload_n 0, 1) := by decide +kernel
theorem dJxa1e45_init_da8c8_1 : decode cJxa1e45_init_da8c8 1 = .ok (.invokespecial 1, 3) := by decide +kernel
theorem q_1282 : (Cond.methodLink "java/util/AbstractCollection" 1 objectInit) ∈ tw := tw_in (i := 1282) (by decide +kernel) (by decide +kernel)
theorem dJxa1e45_init_da8c8_4 : decode cJxa1e45_init_da8c8 4 = .ok (.return_, 1) := by decide +kernel
set_option maxHeartbeats 4000000 in
set_option maxRecDepth 100000 in
theorem c_AC_init (l : Launch) (hst : l.stackTraces = false) (tE : Nat) (adK adV : Nat → Nat) (dC : Nat → ClassId) (dI : Nat → Nat → Nat) (h0 : Nat) (sz : Nat) : Met l yJxa1e45_init_da8c8 (Cond.code yJxa1e45_init_da8c8 cJxa1e45_init_da8c8 1 none :: tw) ({ frames := 1, cells := 0, slots := 0, locals := 12 }) (va_Pc [.ref h0] (pre tE adK adV (dC, dI) [(h0, .inr (14, [.int 0, .null, .int 0]))] [] sz)) (va_Qv (fun (_ : Unit) => True) (fun (_ : Unit) (t : State) => va_P (dC, dI) cls [(h0, .inr (14, [.int 0, .null, .int 0]))] t.heap ∧ va_K (dC, dI) cls [] t ∧ va_D (va_A [(h0, .inr (14, [.int 0, .null, .int 0]))] sz) [(h0, .inr (14, [.int 0, .null, .int 0]))]) (va_A [(h0, .inr (14, [.int 0, .null, .int 0]))] sz)) 0 0 (va_A [(h0, .inr (14, [.int 0, .null, .int 0]))] sz) := by
  refine Met.ofW (cc := cJxa1e45_init_da8c8) (maxL := 1) (ret := none) (by decide) rfl ?_
  intro p e s m args below meth c s₁ B hml hv
  obtain ⟨rfl, hsz, hP, hK, hD0, ham⟩ := hv
  have hx := B.exec
  have hb := B.bytes
  have hr := B.returns
  have hts := atoms_spec B.pre
  have hq : ∀ w ∈ tw, w.before _ s = true := fun w h => hts w (List.mem_cons_of_mem _ h)
  have hown : s.vm.findClass RJxa1e45 = some m.cls := findClass_of_methodNamed B.named
  have hlocks := B.notSynchronized
  have hin : meth.name = "<init>" := (name_of_methodNamed B.named B.method).1
  subst hsz
  have hD := hD0.self (sz := s.heap.size)
  generalize hAe : va_A [(h0, .inr (14, [.int 0, .null, .int 0]))] s.heap.size = A at hD ham ⊢
  have hA : ∀ q : Nat, s.heap.size ≤ q → A q := fun q h => by rw [← hAe]; exact Or.inr h
  have hS : va_S A s.heap s.heap [] := va_S.rf
  have hP : va_P (dC, dI) cls [(h0, .inr (14, [.int 0, .null, .int 0]))] s.heap := hP
  have hl := lv_entry ([.ref h0]) (n := 1) (Nat.le_of_ble_eq_true rfl)
  rw [lg_entry_eq]
  generalize (lg_sl ([.ref h0]) ++ List.replicate (1 - (lg_sl ([.ref h0])).length) Slot.unset).toArray = ls at hl ⊢
  have hl : lv_has ls 1 [(0, .ref h0)] := hl
  refine lv_aload_n hx hb dJxa1e45_init_da8c8_0 rfl (lv_at hl 0 rfl) ?_
  refine W.objInit hx hb hown (hq _ q_1282) (hq _ q_45) (hq _ q_46) rfl (by rw [hml]; exact hl.1) rfl dJxa1e45_init_da8c8_1 (Nat.le_of_ble_eq_true rfl) (Nat.le_of_ble_eq_true rfl) ?_
  refine W.eq (g2 := F0 m 4 ls []) rfl ?_
  refine W.widen (k := 0) (n := 0) (Nat.le_of_ble_eq_true rfl) (Nat.le_of_ble_eq_true rfl) ?_
  have hP9 := hP.sub (ws' := [(h0, .inr (14, [.int 0, .null, .int 0]))]) [0] rfl
  have hD9 := hD.sub (ws' := [(h0, .inr (14, [.int 0, .null, .int 0]))]) [0] (by decide) rfl
  have hK9 := hK.sub (tys' := []) [] rfl
  exact W.vret hx hb hr (fun t ht hW => ⟨⟨(), rfl, trivial, ⟨by rw [ht]; exact hP9, va_K.moved hW.alike hK9, hD9⟩⟩, hS.F ht⟩) hS.2.2 dJxa1e45_init_da8c8_4
def RJxc12de : String := "java/util/AbstractList"
abbrev cJxc12de_init_da8c8 : ByteArray := prog_39_method_1_code
def yJxc12de_init_da8c8 : MethodName := ⟨RJxc12de, "<init>", "()V"⟩
theorem dJxc12de_init_da8c8_0 : decode cJxc12de_init_da8c8 0 = .ok (.aload_n 0, 1) := by decide +kernel
theorem dJxc12de_init_da8c8_1 : decode cJxc12de_init_da8c8 1 = .ok (.invokespecial 1, 3) := by decide +kernel
theorem q_1281 : (Cond.code yJxa1e45_init_da8c8 cJxa1e45_init_da8c8 1 none) ∈ tw := tw_in (i := 1281) (by decide +kernel) (by decide +kernel)
theorem q_13 : (Cond.initialized "java/util/AbstractCollection") ∈ tw := tw_in (i := 13) (by decide +kernel) (by decide +kernel)
theorem q_1279 : (Cond.methodLink "java/util/AbstractList" 1 yJxa1e45_init_da8c8) ∈ tw := tw_in (i := 1279) (by decide +kernel) (by decide +kernel)
theorem q_1280 : (Cond.instanceMethod yJxa1e45_init_da8c8) ∈ tw := tw_in (i := 1280) (by decide +kernel) (by decide +kernel)
theorem dJxc12de_init_da8c8_4 : decode cJxc12de_init_da8c8 4 = .ok (.aload_n 0, 1) := by decide +kernel
theorem dJxc12de_init_da8c8_5 : decode cJxc12de_init_da8c8 5 = .ok (.iconst 0, 1) := by decide +kernel
theorem dJxc12de_init_da8c8_6 : decode cJxc12de_init_da8c8 6 = .ok (.putfield 7, 3) := by decide +kernel
theorem q_1289 : (Cond.fieldLink "java/util/AbstractList" 7 "java/util/AbstractList" "modCount" "I") ∈ tw := tw_in (i := 1289) (by decide +kernel) (by decide +kernel)
theorem dJxc12de_init_da8c8_9 : decode cJxc12de_init_da8c8 9 = .ok (.return_, 1) := by decide +kernel
set_option maxHeartbeats 4000000 in
set_option maxRecDepth 100000 in
theorem c_AbL_init (l : Launch) (hst : l.stackTraces = false) (tE : Nat) (adK adV : Nat → Nat) (dC : Nat → ClassId) (dI : Nat → Nat → Nat) (h0 : Nat) (sz : Nat) : Met l yJxc12de_init_da8c8 (Cond.code yJxc12de_init_da8c8 cJxc12de_init_da8c8 1 none :: tw) ({ frames := 2, cells := 0, slots := 0, locals := 32 }) (va_Pc [.ref h0] (pre tE adK adV (dC, dI) [(h0, .inr (14, [.int 0, .null, .int 0]))] [] sz)) (va_Qv (fun (_ : Unit) => True) (fun (_ : Unit) (t : State) => va_P (dC, dI) cls [(h0, .inr (14, [.int 0, .null, .int 0]))] t.heap ∧ va_K (dC, dI) cls [] t ∧ va_D (va_A [(h0, .inr (14, [.int 0, .null, .int 0]))] sz) [(h0, .inr (14, [.int 0, .null, .int 0]))]) (va_A [(h0, .inr (14, [.int 0, .null, .int 0]))] sz)) 0 0 (va_A [(h0, .inr (14, [.int 0, .null, .int 0]))] sz) := by
  refine Met.ofW (cc := cJxc12de_init_da8c8) (maxL := 1) (ret := none) (by decide) rfl ?_
  intro p e s m args below meth c s₁ B hml hv
  obtain ⟨rfl, hsz, hP, hK, hD0, ham⟩ := hv
  have hx := B.exec
  have hb := B.bytes
  have hr := B.returns
  have hts := atoms_spec B.pre
  have hq : ∀ w ∈ tw, w.before _ s = true := fun w h => hts w (List.mem_cons_of_mem _ h)
  have hown : s.vm.findClass RJxc12de = some m.cls := findClass_of_methodNamed B.named
  have hlocks := B.notSynchronized
  have hin : meth.name = "<init>" := (name_of_methodNamed B.named B.method).1
  subst hsz
  have hD := hD0.self (sz := s.heap.size)
  generalize hAe : va_A [(h0, .inr (14, [.int 0, .null, .int 0]))] s.heap.size = A at hD ham ⊢
  have hA : ∀ q : Nat, s.heap.size ≤ q → A q := fun q h => by rw [← hAe]; exact Or.inr h
  have hS : va_S A s.heap s.heap [] := va_S.rf
  have hP : va_P (dC, dI) cls [(h0, .inr (14, [.int 0, .null, .int 0]))] s.heap := hP
  have hl := lv_entry ([.ref h0]) (n := 1) (Nat.le_of_ble_eq_true rfl)
  rw [lg_entry_eq]
  generalize (lg_sl ([.ref h0]) ++ List.replicate (1 - (lg_sl ([.ref h0])).length) Slot.unset).toArray = ls at hl ⊢
  have hl : lv_has ls 1 [(0, .ref h0)] := hl
  refine lv_aload_n hx hb dJxc12de_init_da8c8_0 rfl (lv_at hl 0 rfl) ?_
  have hPc := hP.sub (ws' := [(h0, .inr (14, [.int 0, .null, .int 0]))]) [0] rfl
  have hKc := hK.sub (tys' := []) [] rfl
  have hDc := hD.sub (ws' := [(h0, .inr (14, [.int 0, .null, .int 0]))]) [0] (by decide) rfl
  have hFc := va_free (wc := [(h0, .inr (14, [.int 0, .null, .int 0]))]) hD hS hA [0] rfl
  refine va_callv (va_runI (As := []) (rest := []) ⟨hx, hb, hml, hown, hq⟩ (c_AC_init l hst tE adK adV dC dI h0 s.heap.size) (tcI 0 hq q_1281 q_13 q_1279 q_1280 rfl rfl rfl (by decide +kernel) ⟨Nat.le_of_ble_eq_true rfl, Nat.le_of_ble_eq_true rfl⟩) (pre.S (pre.of hPc hDc hKc ham hS hFc)) rfl rfl hl.1 rfl (lv_room (Nat.le_of_ble_eq_true rfl)) dJxc12de_init_da8c8_1 ⟨Nat.le_of_ble_eq_true rfl, Nat.le_of_ble_eq_true rfl⟩) hS (fun q _ h => hFc q h) hFc (fun u t H1 locs ht hvm hw hB hz1 hk1 hS => ?_)
  obtain ⟨hP1, hK1, hD1⟩ := hB
  rw [ht] at hP1
  have hK1 := va_K.moved hvm.symm hK1
  obtain ⟨hP, hD⟩ := va_join (wr := []) (w1 := [(h0, .inr (14, [.int 0, .null, .int 0]))]) (wc := [(h0, .inr (14, [.int 0, .null, .int 0]))]) hP hD [0] [] rfl rfl (by decide) (by decide) hk1 hFc hP1 hD1
  have hK := (hK.sub (tys' := []) [] rfl).app hK1
  generalize H1 = H at hP hS ⊢
  have hP : va_P (dC, dI) cls [(h0, .inr (14, [.int 0, .null, .int 0]))] H := hP
  have hD : va_D A [(h0, .inr (14, [.int 0, .null, .int 0]))] := hD
  have hK : va_K (dC, dI) cls [] s := hK
  refine W.widen (k := 0) (n := 0) (Nat.le_of_ble_eq_true rfl) (Nat.le_of_ble_eq_true rfl) ?_
  refine lv_aload_n hx hb dJxc12de_init_da8c8_4 rfl (lv_at hl 0 rfl) ?_
  refine lv_iconst (v := 0) hx hb dJxc12de_init_da8c8_5 (by decide) ?_
  refine va_put (D := (dC, dI)) (ci := 14) (v := .int 0) (ty := .int) (C := RJx4a65c) (T := TJx4a65c) (N := 3) hx hb hq i_Jx4a65c tyJx4a65c tyJx4a65c_ok nmJx4a65c hown hK hP hD hS 0 rfl rfl 0 (by decide) (hq _ q_1289) (fun _ h9 => h9) rfl (by decide +kernel) rfl rfl (Nat.le_of_ble_eq_true rfl) dJxc12de_init_da8c8_6 (fun H locs hP hD hS => ?_)
  have hP : va_P (dC, dI) cls [(h0, .inr (14, [.int 0, .null, .int 0]))] H := hP
  have hD : va_D A [(h0, .inr (14, [.int 0, .null, .int 0]))] := hD
  refine W.widen (k := 0) (n := 0) (Nat.le_of_ble_eq_true rfl) (Nat.le_of_ble_eq_true rfl) ?_
  have hP9 := hP.sub (ws' := [(h0, .inr (14, [.int 0, .null, .int 0]))]) [0] rfl
  have hD9 := hD.sub (ws' := [(h0, .inr (14, [.int 0, .null, .int 0]))]) [0] (by decide) rfl
  have hK9 := hK.sub (tys' := []) [] rfl
  exact W.vret hx hb hr (fun t ht hW => ⟨⟨(), rfl, trivial, ⟨by rw [ht]; exact hP9, va_K.moved hW.alike hK9, hD9⟩⟩, hS.F ht⟩) hS.2.2 dJxc12de_init_da8c8_9
abbrev cJx4a65c_init_da8c8 : ByteArray := prog_40_method_2_code
def yJx4a65c_init_da8c8 : MethodName := ⟨RJx4a65c, "<init>", "()V"⟩
theorem dJx4a65c_init_da8c8_0 : decode cJx4a65c_init_da8c8 0 = .ok (.aload_n 0, 1) := by decide +kernel
theorem dJx4a65c_init_da8c8_1 : decode cJx4a65c_init_da8c8 1 = .ok (.invokespecial 1, 3) := by decide +kernel
theorem q_1278 : (Cond.code yJxc12de_init_da8c8 cJxc12de_init_da8c8 1 none) ∈ tw := tw_in (i := 1278) (by decide +kernel) (by decide +kernel)
theorem q_14 : (Cond.initialized "java/util/AbstractList") ∈ tw := tw_in (i := 14) (by decide +kernel) (by decide +kernel)
theorem q_1276 : (Cond.methodLink "java/util/ArrayList" 1 yJxc12de_init_da8c8) ∈ tw := tw_in (i := 1276) (by decide +kernel) (by decide +kernel)
theorem q_1277 : (Cond.instanceMethod yJxc12de_init_da8c8) ∈ tw := tw_in (i := 1277) (by decide +kernel) (by decide +kernel)
theorem dJx4a65c_init_da8c8_4 : decode cJx4a65c_init_da8c8 4 = .ok (.aload_n 0, 1) := by decide +kernel
theorem dJx4a65c_init_da8c8_5 : decode cJx4a65c_init_da8c8 5 = .ok (.getstatic 39, 3) := by decide +kernel
theorem q_1283 : (Cond.fieldLink "java/util/ArrayList" 39 "java/util/ArrayList" "DEFAULTCAPACITY_EMPTY_ELEMENTDATA" "[Ljava/lang/Object;") ∈ tw := tw_in (i := 1283) (by decide +kernel) (by decide +kernel)
theorem dJx4a65c_init_da8c8_8 : decode cJx4a65c_init_da8c8 8 = .ok (.putfield 9, 3) := by decide +kernel
theorem q_1285 : (Cond.fieldLink "java/util/ArrayList" 9 "java/util/ArrayList" "elementData" "[Ljava/lang/Object;") ∈ tw := tw_in (i := 1285) (by decide +kernel) (by decide +kernel)
theorem dJx4a65c_init_da8c8_11 : decode cJx4a65c_init_da8c8 11 = .ok (.return_, 1) := by decide +kernel
set_option maxHeartbeats 4000000 in
set_option maxRecDepth 100000 in
theorem c_AL_init (l : Launch) (hst : l.stackTraces = false) (tE : Nat) (adK adV : Nat → Nat) (dC : Nat → ClassId) (dI : Nat → Nat → Nat) (h0 : Nat) (sz : Nat) : Met l yJx4a65c_init_da8c8 (Cond.code yJx4a65c_init_da8c8 cJx4a65c_init_da8c8 1 none :: tw) ({ frames := 3, cells := 0, slots := 0, locals := 52 }) (va_Pc [.ref h0] (pre tE adK adV (dC, dI) [(h0, .inr (14, [.int 0, .null, .int 0]))] [] sz)) (va_Qv (fun (_ : Unit) => True) (fun (_ : Unit) (t : State) => va_P (dC, dI) cls [(h0, .inr (14, [.int 0, .ref tE, .int 0]))] t.heap ∧ va_K (dC, dI) cls [] t ∧ va_D (va_A [(h0, .inr (14, [.int 0, .null, .int 0]))] sz) [(h0, .inr (14, [.int 0, .ref tE, .int 0]))]) (va_A [(h0, .inr (14, [.int 0, .null, .int 0]))] sz)) 0 0 (va_A [(h0, .inr (14, [.int 0, .null, .int 0]))] sz) := by
  refine Met.ofW (cc := cJx4a65c_init_da8c8) (maxL := 1) (ret := none) (by decide) rfl ?_
  intro p e s m args below meth c s₁ B hml hv
  obtain ⟨rfl, hsz, hP, hK, hD0, ham⟩ := hv
  have hx := B.exec
  have hb := B.bytes
  have hr := B.returns
  have hts := atoms_spec B.pre
  have hq : ∀ w ∈ tw, w.before _ s = true := fun w h => hts w (List.mem_cons_of_mem _ h)
  have hown : s.vm.findClass RJx4a65c = some m.cls := findClass_of_methodNamed B.named
  have hlocks := B.notSynchronized
  have hin : meth.name = "<init>" := (name_of_methodNamed B.named B.method).1
  subst hsz
  have hD := hD0.self (sz := s.heap.size)
  generalize hAe : va_A [(h0, .inr (14, [.int 0, .null, .int 0]))] s.heap.size = A at hD ham ⊢
  have hA : ∀ q : Nat, s.heap.size ≤ q → A q := fun q h => by rw [← hAe]; exact Or.inr h
  have hS : va_S A s.heap s.heap [] := va_S.rf
  have hP : va_P (dC, dI) cls [(h0, .inr (14, [.int 0, .null, .int 0]))] s.heap := hP
  have hl := lv_entry ([.ref h0]) (n := 1) (Nat.le_of_ble_eq_true rfl)
  rw [lg_entry_eq]
  generalize (lg_sl ([.ref h0]) ++ List.replicate (1 - (lg_sl ([.ref h0])).length) Slot.unset).toArray = ls at hl ⊢
  have hl : lv_has ls 1 [(0, .ref h0)] := hl
  refine lv_aload_n hx hb dJx4a65c_init_da8c8_0 rfl (lv_at hl 0 rfl) ?_
  have hPc := hP.sub (ws' := [(h0, .inr (14, [.int 0, .null, .int 0]))]) [0] rfl
  have hKc := hK.sub (tys' := []) [] rfl
  have hDc := hD.sub (ws' := [(h0, .inr (14, [.int 0, .null, .int 0]))]) [0] (by decide) rfl
  have hFc := va_free (wc := [(h0, .inr (14, [.int 0, .null, .int 0]))]) hD hS hA [0] rfl
  refine va_callv (va_runI (As := []) (rest := []) ⟨hx, hb, hml, hown, hq⟩ (c_AbL_init l hst tE adK adV dC dI h0 s.heap.size) (tcI 0 hq q_1278 q_14 q_1276 q_1277 rfl rfl rfl (by decide +kernel) ⟨Nat.le_of_ble_eq_true rfl, Nat.le_of_ble_eq_true rfl⟩) (pre.S (pre.of hPc hDc hKc ham hS hFc)) rfl rfl hl.1 rfl (lv_room (Nat.le_of_ble_eq_true rfl)) dJx4a65c_init_da8c8_1 ⟨Nat.le_of_ble_eq_true rfl, Nat.le_of_ble_eq_true rfl⟩) hS (fun q _ h => hFc q h) hFc (fun u t H1 locs ht hvm hw hB hz1 hk1 hS => ?_)
  obtain ⟨hP1, hK1, hD1⟩ := hB
  rw [ht] at hP1
  have hK1 := va_K.moved hvm.symm hK1
  obtain ⟨hP, hD⟩ := va_join (wr := []) (w1 := [(h0, .inr (14, [.int 0, .null, .int 0]))]) (wc := [(h0, .inr (14, [.int 0, .null, .int 0]))]) hP hD [0] [] rfl rfl (by decide) (by decide) hk1 hFc hP1 hD1
  have hK := (hK.sub (tys' := []) [] rfl).app hK1
  generalize H1 = H at hP hS ⊢
  have hP : va_P (dC, dI) cls [(h0, .inr (14, [.int 0, .null, .int 0]))] H := hP
  have hD : va_D A [(h0, .inr (14, [.int 0, .null, .int 0]))] := hD
  have hK : va_K (dC, dI) cls [] s := hK
  refine W.widen (k := 0) (n := 0) (Nat.le_of_ble_eq_true rfl) (Nat.le_of_ble_eq_true rfl) ?_
  refine lv_aload_n hx hb dJx4a65c_init_da8c8_4 rfl (lv_at hl 0 rfl) ?_
  refine va_gets hx hb ham.2.2.1.1 hS hown (hq _ q_1283) (fun _ h9 => h9) dJx4a65c_init_da8c8_5 ?_
  refine va_put (D := (dC, dI)) (ci := 14) (v := .ref tE) (ty := (.array (.object "java/lang/Object"))) (C := RJx4a65c) (T := TJx4a65c) (N := 3) hx hb hq i_Jx4a65c tyJx4a65c tyJx4a65c_ok nmJx4a65c hown hK hP hD hS 0 rfl rfl 1 (by decide) (hq _ q_1285) (fun _ h9 => h9) rfl (by decide +kernel) rfl rfl (Nat.le_of_ble_eq_true rfl) dJx4a65c_init_da8c8_8 (fun H locs hP hD hS => ?_)
  have hP : va_P (dC, dI) cls [(h0, .inr (14, [.int 0, .ref tE, .int 0]))] H := hP
  have hD : va_D A [(h0, .inr (14, [.int 0, .ref tE, .int 0]))] := hD
  refine W.widen (k := 0) (n := 0) (Nat.le_of_ble_eq_true rfl) (Nat.le_of_ble_eq_true rfl) ?_
  have hP9 := hP.sub (ws' := [(h0, .inr (14, [.int 0, .ref tE, .int 0]))]) [0] rfl
  have hD9 := hD.sub (ws' := [(h0, .inr (14, [.int 0, .ref tE, .int 0]))]) [0] (by decide) rfl
  have hK9 := hK.sub (tys' := []) [] rfl
  exact W.vret hx hb hr (fun t ht hW => ⟨⟨(), rfl, trivial, ⟨by rw [ht]; exact hP9, va_K.moved hW.alike hK9, hD9⟩⟩, hS.F ht⟩) hS.2.2 dJx4a65c_init_da8c8_11
def RJ7 : String := "java/util/Arrays"
abbrev cJ7_fill_53178 : ByteArray := prog_42_method_103_code
def yJ7_fill_53178 : MethodName := ⟨RJ7, "fill", "([II)V"⟩
theorem dJ7_fill_53178_0 : decode cJ7_fill_53178 0 = .ok (.iconst 0, 1) := by decide +kernel
theorem dJ7_fill_53178_1 : decode cJ7_fill_53178 1 = .ok (.istore_n 2, 1) := by decide +kernel
theorem dJ7_fill_53178_2 : decode cJ7_fill_53178 2 = .ok (.aload_n 0, 1) := by decide +kernel
theorem dJ7_fill_53178_3 : decode cJ7_fill_53178 3 = .ok (.arraylength, 1) := by decide +kernel
theorem dJ7_fill_53178_4 : decode cJ7_fill_53178 4 = .ok (.istore_n 3, 1) := by decide +kernel
theorem dJ7_fill_53178_5 : decode cJ7_fill_53178 5 = .ok (.iload_n 2, 1) := by decide +kernel
theorem dJ7_fill_53178_6 : decode cJ7_fill_53178 6 = .ok (.iload_n 3, 1) := by decide +kernel
theorem dJ7_fill_53178_7 : decode cJ7_fill_53178 7 = .ok (.if_icmp .ge 13, 3) := by decide +kernel
theorem dJ7_fill_53178_10 : decode cJ7_fill_53178 10 = .ok (.aload_n 0, 1) := by decide +kernel
theorem dJ7_fill_53178_11 : decode cJ7_fill_53178 11 = .ok (.iload_n 2, 1) := by decide +kernel
theorem dJ7_fill_53178_12 : decode cJ7_fill_53178 12 = .ok (.iload_n 1, 1) := by decide +kernel
theorem dJ7_fill_53178_13 : decode cJ7_fill_53178 13 = .ok (.iastore, 1) := by decide +kernel
theorem dJ7_fill_53178_14 : decode cJ7_fill_53178 14 = .ok (.iinc 2 1, 3) := by decide +kernel
theorem dJ7_fill_53178_17 : decode cJ7_fill_53178 17 = .ok (.goto (-12), 3) := by decide +kernel
theorem dJ7_fill_53178_20 : decode cJ7_fill_53178 20 = .ok (.return_, 1) := by decide +kernel
set_option maxHeartbeats 4000000 in
set_option maxRecDepth 100000 in
theorem c_fillI (l : Launch) (hst : l.stackTraces = false) (tE : Nat) (adK adV : Nat → Nat) (dC : Nat → ClassId) (dI : Nat → Nat → Nat) (h0 : Nat) (k0 : ClassId) (f0 : Nat → Int32) (v0 : Int32) (sz : Nat) : Met l yJ7_fill_53178 (Cond.code yJ7_fill_53178 cJ7_fill_53178 4 none :: tw) ({ frames := 0, cells := 0, slots := 0, locals := 0 }) (va_Pc [.ref h0, .int v0] (pre tE adK adV (dC, dI) [(h0, .inl (k0, 7, .inl f0))] [(k0, .int)] sz)) (va_Qv (fun (_ : Unit) => True) (fun (_ : Unit) (_ : State) => True) (va_A [(h0, .inl (k0, 7, .inl f0))] sz)) 0 0 (va_A [(h0, .inl (k0, 7, .inl f0))] sz) := by
  refine Met.ofW (cc := cJ7_fill_53178) (maxL := 4) (ret := none) (by decide) rfl ?_
  intro p e s m args below meth c s₁ B hml hv
  obtain ⟨rfl, hsz, hP, hK, hD0, ham⟩ := hv
  have hx := B.exec
  have hb := B.bytes
  have hr := B.returns
  have hts := atoms_spec B.pre
  have hq : ∀ w ∈ tw, w.before _ s = true := fun w h => hts w (List.mem_cons_of_mem _ h)
  have hown : s.vm.findClass RJ7 = some m.cls := findClass_of_methodNamed B.named
  have hlocks := B.notSynchronized
  subst hsz
  have hD := hD0.self (sz := s.heap.size)
  generalize hAe : va_A [(h0, .inl (k0, 7, .inl f0))] s.heap.size = A at hD ham ⊢
  have hA : ∀ q : Nat, s.heap.size ≤ q → A q := fun q h => by rw [← hAe]; exact Or.inr h
  have hS : va_S A s.heap s.heap [] := va_S.rf
  have hP : va_P (dC, dI) cls [(h0, .inl (k0, 7, .inl f0))] s.heap := hP
  have hl := lv_entry ([.ref h0, .int v0]) (n := 4) (Nat.le_of_ble_eq_true rfl)
  rw [lg_entry_eq]
  generalize (lg_sl ([.ref h0, .int v0]) ++ List.replicate (4 - (lg_sl ([.ref h0, .int v0])).length) Slot.unset).toArray = ls at hl ⊢
  have hl : lv_has ls 4 [(0, .ref h0), (1, .int v0)] := hl
  refine lv_iconst (v := 0) hx hb dJ7_fill_53178_0 (by decide) ?_
  refine lv_istore_n (lv' := [(2, .int 0), (0, .ref h0), (1, .int v0)]) hx hb dJ7_fill_53178_1 rfl hl (by decide) rfl (fun ls hl => ?_)
  refine lv_aload_n hx hb dJ7_fill_53178_2 rfl (lv_at hl 1 rfl) ?_
  refine va_alen hx hb hK hP 0 0 rfl rfl (v := 7) (by show Int32.ofNat 7 = 7; decide) dJ7_fill_53178_3 ?_
  refine lv_istore_n (lv' := [(3, .int 7), (2, .int 0), (0, .ref h0), (1, .int v0)]) hx hb dJ7_fill_53178_4 rfl hl (by decide) rfl (fun ls hl => ?_)
  refine lv_iload_n hx hb dJ7_fill_53178_5 rfl (lv_at hl 1 rfl) ?_
  refine lv_iload_n hx hb dJ7_fill_53178_6 rfl (lv_at hl 0 rfl) ?_
  refine lv_icmp_ge (tgt := 20) hx hb dJ7_fill_53178_7 (by decide) (fun c_1 => ?_) (fun c_1 => ?_)
  · exact absurd c_1 (by decide)
  · refine lv_aload_n hx hb dJ7_fill_53178_10 rfl (lv_at hl 2 rfl) ?_
    refine lv_iload_n hx hb dJ7_fill_53178_11 rfl (lv_at hl 1 rfl) ?_
    refine lv_iload_n hx hb dJ7_fill_53178_12 rfl (lv_at hl 3 rfl) ?_
    refine va_iast hx hb hK hP hD hS 0 0 rfl rfl (by unfold vp_in; decide) dJ7_fill_53178_13 (fun H locs hP hD hS => ?_)
    obtain ⟨f_2, ef_2⟩ : ∃ z, z = (upd f0 (0 : Int32).toNatClampNeg v0) := ⟨_, rfl⟩
    have hP : va_P (dC, dI) cls [(h0, .inl (k0, 7, .inl f_2))] H := by rw [ef_2]; exact hP
    have hD : va_D A [(h0, .inl (k0, 7, .inl f_2))] := by rw [ef_2]; exact hD
    refine lv_iinc (v := 1) (lv' := [(2, .int 1), (3, .int 7), (0, .ref h0), (1, .int v0)]) hx hb dJ7_fill_53178_14 hl (k := 1) rfl (by decide) (by decide) rfl (fun ls hl => ?_)
    refine lv_goto (tgt := 5) hx hb dJ7_fill_53178_17 (by decide) ?_
    refine lv_iload_n hx hb dJ7_fill_53178_5 rfl (lv_at hl 0 rfl) ?_
    refine lv_iload_n hx hb dJ7_fill_53178_6 rfl (lv_at hl 1 rfl) ?_
    refine lv_icmp_ge (tgt := 20) hx hb dJ7_fill_53178_7 (by decide) (fun c_3 => ?_) (fun c_3 => ?_)
    · exact absurd c_3 (by decide)
    · refine lv_aload_n hx hb dJ7_fill_53178_10 rfl (lv_at hl 2 rfl) ?_
      refine lv_iload_n hx hb dJ7_fill_53178_11 rfl (lv_at hl 0 rfl) ?_
      refine lv_iload_n hx hb dJ7_fill_53178_12 rfl (lv_at hl 3 rfl) ?_
      refine va_iast hx hb hK hP hD hS 0 0 rfl rfl (by unfold vp_in; decide) dJ7_fill_53178_13 (fun H locs hP hD hS => ?_)
      obtain ⟨f_4, ef_4⟩ : ∃ z, z = (upd f_2 (1 : Int32).toNatClampNeg v0) := ⟨_, rfl⟩
      have hP : va_P (dC, dI) cls [(h0, .inl (k0, 7, .inl f_4))] H := by rw [ef_4]; exact hP
      have hD : va_D A [(h0, .inl (k0, 7, .inl f_4))] := by rw [ef_4]; exact hD
      refine lv_iinc (v := 2) (lv' := [(2, .int 2), (3, .int 7), (0, .ref h0), (1, .int v0)]) hx hb dJ7_fill_53178_14 hl (k := 0) rfl (by decide) (by decide) rfl (fun ls hl => ?_)
      refine lv_goto (tgt := 5) hx hb dJ7_fill_53178_17 (by decide) ?_
      refine lv_iload_n hx hb dJ7_fill_53178_5 rfl (lv_at hl 0 rfl) ?_
      refine lv_iload_n hx hb dJ7_fill_53178_6 rfl (lv_at hl 1 rfl) ?_
      refine lv_icmp_ge (tgt := 20) hx hb dJ7_fill_53178_7 (by decide) (fun c_5 => ?_) (fun c_5 => ?_)
      · exact absurd c_5 (by decide)
      · refine lv_aload_n hx hb dJ7_fill_53178_10 rfl (lv_at hl 2 rfl) ?_
        refine lv_iload_n hx hb dJ7_fill_53178_11 rfl (lv_at hl 0 rfl) ?_
        refine lv_iload_n hx hb dJ7_fill_53178_12 rfl (lv_at hl 3 rfl) ?_
        refine va_iast hx hb hK hP hD hS 0 0 rfl rfl (by unfold vp_in; decide) dJ7_fill_53178_13 (fun H locs hP hD hS => ?_)
        obtain ⟨f_6, ef_6⟩ : ∃ z, z = (upd f_4 (2 : Int32).toNatClampNeg v0) := ⟨_, rfl⟩
        have hP : va_P (dC, dI) cls [(h0, .inl (k0, 7, .inl f_6))] H := by rw [ef_6]; exact hP
        have hD : va_D A [(h0, .inl (k0, 7, .inl f_6))] := by rw [ef_6]; exact hD
        refine lv_iinc (v := 3) (lv' := [(2, .int 3), (3, .int 7), (0, .ref h0), (1, .int v0)]) hx hb dJ7_fill_53178_14 hl (k := 0) rfl (by decide) (by decide) rfl (fun ls hl => ?_)
        refine lv_goto (tgt := 5) hx hb dJ7_fill_53178_17 (by decide) ?_
        refine lv_iload_n hx hb dJ7_fill_53178_5 rfl (lv_at hl 0 rfl) ?_
        refine lv_iload_n hx hb dJ7_fill_53178_6 rfl (lv_at hl 1 rfl) ?_
        refine lv_icmp_ge (tgt := 20) hx hb dJ7_fill_53178_7 (by decide) (fun c_7 => ?_) (fun c_7 => ?_)
        · exact absurd c_7 (by decide)
        · refine lv_aload_n hx hb dJ7_fill_53178_10 rfl (lv_at hl 2 rfl) ?_
          refine lv_iload_n hx hb dJ7_fill_53178_11 rfl (lv_at hl 0 rfl) ?_
          refine lv_iload_n hx hb dJ7_fill_53178_12 rfl (lv_at hl 3 rfl) ?_
          refine va_iast hx hb hK hP hD hS 0 0 rfl rfl (by unfold vp_in; decide) dJ7_fill_53178_13 (fun H locs hP hD hS => ?_)
          obtain ⟨f_8, ef_8⟩ : ∃ z, z = (upd f_6 (3 : Int32).toNatClampNeg v0) := ⟨_, rfl⟩
          have hP : va_P (dC, dI) cls [(h0, .inl (k0, 7, .inl f_8))] H := by rw [ef_8]; exact hP
          have hD : va_D A [(h0, .inl (k0, 7, .inl f_8))] := by rw [ef_8]; exact hD
          refine lv_iinc (v := 4) (lv' := [(2, .int 4), (3, .int 7), (0, .ref h0), (1, .int v0)]) hx hb dJ7_fill_53178_14 hl (k := 0) rfl (by decide) (by decide) rfl (fun ls hl => ?_)
          refine lv_goto (tgt := 5) hx hb dJ7_fill_53178_17 (by decide) ?_
          refine lv_iload_n hx hb dJ7_fill_53178_5 rfl (lv_at hl 0 rfl) ?_
          refine lv_iload_n hx hb dJ7_fill_53178_6 rfl (lv_at hl 1 rfl) ?_
          refine lv_icmp_ge (tgt := 20) hx hb dJ7_fill_53178_7 (by decide) (fun c_9 => ?_) (fun c_9 => ?_)
          · exact absurd c_9 (by decide)
          · refine lv_aload_n hx hb dJ7_fill_53178_10 rfl (lv_at hl 2 rfl) ?_
            refine lv_iload_n hx hb dJ7_fill_53178_11 rfl (lv_at hl 0 rfl) ?_
            refine lv_iload_n hx hb dJ7_fill_53178_12 rfl (lv_at hl 3 rfl) ?_
            refine va_iast hx hb hK hP hD hS 0 0 rfl rfl (by unfold vp_in; decide) dJ7_fill_53178_13 (fun H locs hP hD hS => ?_)
            obtain ⟨f_10, ef_10⟩ : ∃ z, z = (upd f_8 (4 : Int32).toNatClampNeg v0) := ⟨_, rfl⟩
            have hP : va_P (dC, dI) cls [(h0, .inl (k0, 7, .inl f_10))] H := by rw [ef_10]; exact hP
            have hD : va_D A [(h0, .inl (k0, 7, .inl f_10))] := by rw [ef_10]; exact hD
            refine lv_iinc (v := 5) (lv' := [(2, .int 5), (3, .int 7), (0, .ref h0), (1, .int v0)]) hx hb dJ7_fill_53178_14 hl (k := 0) rfl (by decide) (by decide) rfl (fun ls hl => ?_)
            refine lv_goto (tgt := 5) hx hb dJ7_fill_53178_17 (by decide) ?_
            refine lv_iload_n hx hb dJ7_fill_53178_5 rfl (lv_at hl 0 rfl) ?_
            refine lv_iload_n hx hb dJ7_fill_53178_6 rfl (lv_at hl 1 rfl) ?_
            refine lv_icmp_ge (tgt := 20) hx hb dJ7_fill_53178_7 (by decide) (fun c_11 => ?_) (fun c_11 => ?_)
            · exact absurd c_11 (by decide)
            · refine lv_aload_n hx hb dJ7_fill_53178_10 rfl (lv_at hl 2 rfl) ?_
              refine lv_iload_n hx hb dJ7_fill_53178_11 rfl (lv_at hl 0 rfl) ?_
              refine lv_iload_n hx hb dJ7_fill_53178_12 rfl (lv_at hl 3 rfl) ?_
              refine va_iast hx hb hK hP hD hS 0 0 rfl rfl (by unfold vp_in; decide) dJ7_fill_53178_13 (fun H locs hP hD hS => ?_)
              obtain ⟨f_12, ef_12⟩ : ∃ z, z = (upd f_10 (5 : Int32).toNatClampNeg v0) := ⟨_, rfl⟩
              have hP : va_P (dC, dI) cls [(h0, .inl (k0, 7, .inl f_12))] H := by rw [ef_12]; exact hP
              have hD : va_D A [(h0, .inl (k0, 7, .inl f_12))] := by rw [ef_12]; exact hD
              refine lv_iinc (v := 6) (lv' := [(2, .int 6), (3, .int 7), (0, .ref h0), (1, .int v0)]) hx hb dJ7_fill_53178_14 hl (k := 0) rfl (by decide) (by decide) rfl (fun ls hl => ?_)
              refine lv_goto (tgt := 5) hx hb dJ7_fill_53178_17 (by decide) ?_
              refine lv_iload_n hx hb dJ7_fill_53178_5 rfl (lv_at hl 0 rfl) ?_
              refine lv_iload_n hx hb dJ7_fill_53178_6 rfl (lv_at hl 1 rfl) ?_
              refine lv_icmp_ge (tgt := 20) hx hb dJ7_fill_53178_7 (by decide) (fun c_13 => ?_) (fun c_13 => ?_)
              · exact absurd c_13 (by decide)
              · refine lv_aload_n hx hb dJ7_fill_53178_10 rfl (lv_at hl 2 rfl) ?_
                refine lv_iload_n hx hb dJ7_fill_53178_11 rfl (lv_at hl 0 rfl) ?_
                refine lv_iload_n hx hb dJ7_fill_53178_12 rfl (lv_at hl 3 rfl) ?_
                refine va_iast hx hb hK hP hD hS 0 0 rfl rfl (by unfold vp_in; decide) dJ7_fill_53178_13 (fun H locs hP hD hS => ?_)
                obtain ⟨f_14, ef_14⟩ : ∃ z, z = (upd f_12 (6 : Int32).toNatClampNeg v0) := ⟨_, rfl⟩
                have hP : va_P (dC, dI) cls [(h0, .inl (k0, 7, .inl f_14))] H := by rw [ef_14]; exact hP
                have hD : va_D A [(h0, .inl (k0, 7, .inl f_14))] := by rw [ef_14]; exact hD
                refine lv_iinc (v := 7) (lv' := [(2, .int 7), (3, .int 7), (0, .ref h0), (1, .int v0)]) hx hb dJ7_fill_53178_14 hl (k := 0) rfl (by decide) (by decide) rfl (fun ls hl => ?_)
                refine lv_goto (tgt := 5) hx hb dJ7_fill_53178_17 (by decide) ?_
                refine lv_iload_n hx hb dJ7_fill_53178_5 rfl (lv_at hl 0 rfl) ?_
                refine lv_iload_n hx hb dJ7_fill_53178_6 rfl (lv_at hl 1 rfl) ?_
                refine lv_icmp_ge (tgt := 20) hx hb dJ7_fill_53178_7 (by decide) (fun c_15 => ?_) (fun c_15 => ?_)
                · refine W.widen (k := 0) (n := 0) (Nat.le_of_ble_eq_true rfl) (Nat.le_of_ble_eq_true rfl) ?_
                  exact W.vret hx hb hr (fun t ht hW => ⟨⟨(), rfl, trivial, trivial⟩, hS.F ht⟩) hS.2.2 dJ7_fill_53178_20
                · exact absurd c_15 (by decide)
abbrev cJ7_fill_18040 : ByteArray := prog_42_method_107_code
def yJ7_fill_18040 : MethodName := ⟨RJ7, "fill", "([CC)V"⟩
theorem dJ7_fill_18040_0 : decode cJ7_fill_18040 0 = .ok (.iconst 0, 1) := by decide +kernel
theorem dJ7_fill_18040_1 : decode cJ7_fill_18040 1 = .ok (.istore_n 2, 1) := by decide +kernel
theorem dJ7_fill_18040_2 : decode cJ7_fill_18040 2 = .ok (.aload_n 0, 1) := by decide +kernel
theorem dJ7_fill_18040_3 : decode cJ7_fill_18040 3 = .ok (.arraylength, 1) := by decide +kernel
theorem dJ7_fill_18040_4 : decode cJ7_fill_18040 4 = .ok (.istore_n 3, 1) := by decide +kernel
theorem dJ7_fill_18040_5 : decode cJ7_fill_18040 5 = .ok (.iload_n 2, 1) := by decide +kernel
theorem dJ7_fill_18040_6 : decode cJ7_fill_18040 6 = .ok (.iload_n 3, 1) := by decide +kernel
theorem dJ7_fill_18040_7 : decode cJ7_fill_18040 7 = .ok (.if_icmp .ge 13, 3) := by decide +kernel
theorem dJ7_fill_18040_10 : decode cJ7_fill_18040 10 = .ok (.aload_n 0, 1) := by decide +kernel
theorem dJ7_fill_18040_11 : decode cJ7_fill_18040 11 = .ok (.iload_n 2, 1) := by decide +kernel
theorem dJ7_fill_18040_12 : decode cJ7_fill_18040 12 = .ok (.iload_n 1, 1) := by decide +kernel
theorem dJ7_fill_18040_13 : decode cJ7_fill_18040 13 = .ok (.castore, 1) := by decide +kernel
theorem dJ7_fill_18040_14 : decode cJ7_fill_18040 14 = .ok (.iinc 2 1, 3) := by decide +kernel
theorem dJ7_fill_18040_17 : decode cJ7_fill_18040 17 = .ok (.goto (-12), 3) := by decide +kernel
theorem dJ7_fill_18040_20 : decode cJ7_fill_18040 20 = .ok (.return_, 1) := by decide +kernel
set_option maxHeartbeats 4000000 in
set_option maxRecDepth 100000 in
theorem c_fillC (l : Launch) (hst : l.stackTraces = false) (tE : Nat) (adK adV : Nat → Nat) (dC : Nat → ClassId) (dI : Nat → Nat → Nat) (h0 : Nat) (k0 : ClassId) (f0 : Nat → Int32) (v0 : Int32) (sz : Nat) : Met l yJ7_fill_18040 (Cond.code yJ7_fill_18040 cJ7_fill_18040 4 none :: tw) ({ frames := 0, cells := 0, slots := 0, locals := 0 }) (va_Pc [.ref h0, .int v0] (pre tE adK adV (dC, dI) [(h0, .inl (k0, 7, .inl f0))] [(k0, .char)] sz)) (va_Qv (fun (_ : Unit) => True) (fun (_ : Unit) (_ : State) => True) (va_A [(h0, .inl (k0, 7, .inl f0))] sz)) 0 0 (va_A [(h0, .inl (k0, 7, .inl f0))] sz) := by
  refine Met.ofW (cc := cJ7_fill_18040) (maxL := 4) (ret := none) (by decide) rfl ?_
  intro p e s m args below meth c s₁ B hml hv
  obtain ⟨rfl, hsz, hP, hK, hD0, ham⟩ := hv
  have hx := B.exec
  have hb := B.bytes
  have hr := B.returns
  have hts := atoms_spec B.pre
  have hq : ∀ w ∈ tw, w.before _ s = true := fun w h => hts w (List.mem_cons_of_mem _ h)
  have hown : s.vm.findClass RJ7 = some m.cls := findClass_of_methodNamed B.named
  have hlocks := B.notSynchronized
  subst hsz
  have hD := hD0.self (sz := s.heap.size)
  generalize hAe : va_A [(h0, .inl (k0, 7, .inl f0))] s.heap.size = A at hD ham ⊢
  have hA : ∀ q : Nat, s.heap.size ≤ q → A q := fun q h => by rw [← hAe]; exact Or.inr h
  have hS : va_S A s.heap s.heap [] := va_S.rf
  have hP : va_P (dC, dI) cls [(h0, .inl (k0, 7, .inl f0))] s.heap := hP
  have hl := lv_entry ([.ref h0, .int v0]) (n := 4) (Nat.le_of_ble_eq_true rfl)
  rw [lg_entry_eq]
  generalize (lg_sl ([.ref h0, .int v0]) ++ List.replicate (4 - (lg_sl ([.ref h0, .int v0])).length) Slot.unset).toArray = ls at hl ⊢
  have hl : lv_has ls 4 [(0, .ref h0), (1, .int v0)] := hl
  refine lv_iconst (v := 0) hx hb dJ7_fill_18040_0 (by decide) ?_
  refine lv_istore_n (lv' := [(2, .int 0), (0, .ref h0), (1, .int v0)]) hx hb dJ7_fill_18040_1 rfl hl (by decide) rfl (fun ls hl => ?_)
  refine lv_aload_n hx hb dJ7_fill_18040_2 rfl (lv_at hl 1 rfl) ?_
  refine va_alen hx hb hK hP 0 0 rfl rfl (v := 7) (by show Int32.ofNat 7 = 7; decide) dJ7_fill_18040_3 ?_
  refine lv_istore_n (lv' := [(3, .int 7), (2, .int 0), (0, .ref h0), (1, .int v0)]) hx hb dJ7_fill_18040_4 rfl hl (by decide) rfl (fun ls hl => ?_)
  refine lv_iload_n hx hb dJ7_fill_18040_5 rfl (lv_at hl 1 rfl) ?_
  refine lv_iload_n hx hb dJ7_fill_18040_6 rfl (lv_at hl 0 rfl) ?_
  refine lv_icmp_ge (tgt := 20) hx hb dJ7_fill_18040_7 (by decide) (fun c_1 => ?_) (fun c_1 => ?_)
  · exact absurd c_1 (by decide)
  · refine lv_aload_n hx hb dJ7_fill_18040_10 rfl (lv_at hl 2 rfl) ?_
    refine lv_iload_n hx hb dJ7_fill_18040_11 rfl (lv_at hl 1 rfl) ?_
    refine lv_iload_n hx hb dJ7_fill_18040_12 rfl (lv_at hl 3 rfl) ?_
    refine va_cast hx hb hK hP hD hS 0 0 rfl rfl (by unfold vp_in; decide) dJ7_fill_18040_13 (fun H locs hP hD hS => ?_)
    obtain ⟨f_2, ef_2⟩ : ∃ z, z = (upd f0 (0 : Int32).toNatClampNeg (vp_nar .char v0)) := ⟨_, rfl⟩
    have hP : va_P (dC, dI) cls [(h0, .inl (k0, 7, .inl f_2))] H := by rw [ef_2]; exact hP
    have hD : va_D A [(h0, .inl (k0, 7, .inl f_2))] := by rw [ef_2]; exact hD
    refine lv_iinc (v := 1) (lv' := [(2, .int 1), (3, .int 7), (0, .ref h0), (1, .int v0)]) hx hb dJ7_fill_18040_14 hl (k := 1) rfl (by decide) (by decide) rfl (fun ls hl => ?_)
    refine lv_goto (tgt := 5) hx hb dJ7_fill_18040_17 (by decide) ?_
    refine lv_iload_n hx hb dJ7_fill_18040_5 rfl (lv_at hl 0 rfl) ?_
    refine lv_iload_n hx hb dJ7_fill_18040_6 rfl (lv_at hl 1 rfl) ?_
    refine lv_icmp_ge (tgt := 20) hx hb dJ7_fill_18040_7 (by decide) (fun c_3 => ?_) (fun c_3 => ?_)
    · exact absurd c_3 (by decide)
    · refine lv_aload_n hx hb dJ7_fill_18040_10 rfl (lv_at hl 2 rfl) ?_
      refine lv_iload_n hx hb dJ7_fill_18040_11 rfl (lv_at hl 0 rfl) ?_
      refine lv_iload_n hx hb dJ7_fill_18040_12 rfl (lv_at hl 3 rfl) ?_
      refine va_cast hx hb hK hP hD hS 0 0 rfl rfl (by unfold vp_in; decide) dJ7_fill_18040_13 (fun H locs hP hD hS => ?_)
      obtain ⟨f_4, ef_4⟩ : ∃ z, z = (upd f_2 (1 : Int32).toNatClampNeg (vp_nar .char v0)) := ⟨_, rfl⟩
      have hP : va_P (dC, dI) cls [(h0, .inl (k0, 7, .inl f_4))] H := by rw [ef_4]; exact hP
      have hD : va_D A [(h0, .inl (k0, 7, .inl f_4))] := by rw [ef_4]; exact hD
      refine lv_iinc (v := 2) (lv' := [(2, .int 2), (3, .int 7), (0, .ref h0), (1, .int v0)]) hx hb dJ7_fill_18040_14 hl (k := 0) rfl (by decide) (by decide) rfl (fun ls hl => ?_)
      refine lv_goto (tgt := 5) hx hb dJ7_fill_18040_17 (by decide) ?_
      refine lv_iload_n hx hb dJ7_fill_18040_5 rfl (lv_at hl 0 rfl) ?_
      refine lv_iload_n hx hb dJ7_fill_18040_6 rfl (lv_at hl 1 rfl) ?_
      refine lv_icmp_ge (tgt := 20) hx hb dJ7_fill_18040_7 (by decide) (fun c_5 => ?_) (fun c_5 => ?_)
      · exact absurd c_5 (by decide)
      · refine lv_aload_n hx hb dJ7_fill_18040_10 rfl (lv_at hl 2 rfl) ?_
        refine lv_iload_n hx hb dJ7_fill_18040_11 rfl (lv_at hl 0 rfl) ?_
        refine lv_iload_n hx hb dJ7_fill_18040_12 rfl (lv_at hl 3 rfl) ?_
        refine va_cast hx hb hK hP hD hS 0 0 rfl rfl (by unfold vp_in; decide) dJ7_fill_18040_13 (fun H locs hP hD hS => ?_)
        obtain ⟨f_6, ef_6⟩ : ∃ z, z = (upd f_4 (2 : Int32).toNatClampNeg (vp_nar .char v0)) := ⟨_, rfl⟩
        have hP : va_P (dC, dI) cls [(h0, .inl (k0, 7, .inl f_6))] H := by rw [ef_6]; exact hP
        have hD : va_D A [(h0, .inl (k0, 7, .inl f_6))] := by rw [ef_6]; exact hD
        refine lv_iinc (v := 3) (lv' := [(2, .int 3), (3, .int 7), (0, .ref h0), (1, .int v0)]) hx hb dJ7_fill_18040_14 hl (k := 0) rfl (by decide) (by decide) rfl (fun ls hl => ?_)
        refine lv_goto (tgt := 5) hx hb dJ7_fill_18040_17 (by decide) ?_
        refine lv_iload_n hx hb dJ7_fill_18040_5 rfl (lv_at hl 0 rfl) ?_
        refine lv_iload_n hx hb dJ7_fill_18040_6 rfl (lv_at hl 1 rfl) ?_
        refine lv_icmp_ge (tgt := 20) hx hb dJ7_fill_18040_7 (by decide) (fun c_7 => ?_) (fun c_7 => ?_)
        · exact absurd c_7 (by decide)
        · refine lv_aload_n hx hb dJ7_fill_18040_10 rfl (lv_at hl 2 rfl) ?_
          refine lv_iload_n hx hb dJ7_fill_18040_11 rfl (lv_at hl 0 rfl) ?_
          refine lv_iload_n hx hb dJ7_fill_18040_12 rfl (lv_at hl 3 rfl) ?_
          refine va_cast hx hb hK hP hD hS 0 0 rfl rfl (by unfold vp_in; decide) dJ7_fill_18040_13 (fun H locs hP hD hS => ?_)
          obtain ⟨f_8, ef_8⟩ : ∃ z, z = (upd f_6 (3 : Int32).toNatClampNeg (vp_nar .char v0)) := ⟨_, rfl⟩
          have hP : va_P (dC, dI) cls [(h0, .inl (k0, 7, .inl f_8))] H := by rw [ef_8]; exact hP
          have hD : va_D A [(h0, .inl (k0, 7, .inl f_8))] := by rw [ef_8]; exact hD
          refine lv_iinc (v := 4) (lv' := [(2, .int 4), (3, .int 7), (0, .ref h0), (1, .int v0)]) hx hb dJ7_fill_18040_14 hl (k := 0) rfl (by decide) (by decide) rfl (fun ls hl => ?_)
          refine lv_goto (tgt := 5) hx hb dJ7_fill_18040_17 (by decide) ?_
          refine lv_iload_n hx hb dJ7_fill_18040_5 rfl (lv_at hl 0 rfl) ?_
          refine lv_iload_n hx hb dJ7_fill_18040_6 rfl (lv_at hl 1 rfl) ?_
          refine lv_icmp_ge (tgt := 20) hx hb dJ7_fill_18040_7 (by decide) (fun c_9 => ?_) (fun c_9 => ?_)
          · exact absurd c_9 (by decide)
          · refine lv_aload_n hx hb dJ7_fill_18040_10 rfl (lv_at hl 2 rfl) ?_
            refine lv_iload_n hx hb dJ7_fill_18040_11 rfl (lv_at hl 0 rfl) ?_
            refine lv_iload_n hx hb dJ7_fill_18040_12 rfl (lv_at hl 3 rfl) ?_
            refine va_cast hx hb hK hP hD hS 0 0 rfl rfl (by unfold vp_in; decide) dJ7_fill_18040_13 (fun H locs hP hD hS => ?_)
            obtain ⟨f_10, ef_10⟩ : ∃ z, z = (upd f_8 (4 : Int32).toNatClampNeg (vp_nar .char v0)) := ⟨_, rfl⟩
            have hP : va_P (dC, dI) cls [(h0, .inl (k0, 7, .inl f_10))] H := by rw [ef_10]; exact hP
            have hD : va_D A [(h0, .inl (k0, 7, .inl f_10))] := by rw [ef_10]; exact hD
            refine lv_iinc (v := 5) (lv' := [(2, .int 5), (3, .int 7), (0, .ref h0), (1, .int v0)]) hx hb dJ7_fill_18040_14 hl (k := 0) rfl (by decide) (by decide) rfl (fun ls hl => ?_)
            refine lv_goto (tgt := 5) hx hb dJ7_fill_18040_17 (by decide) ?_
            refine lv_iload_n hx hb dJ7_fill_18040_5 rfl (lv_at hl 0 rfl) ?_
            refine lv_iload_n hx hb dJ7_fill_18040_6 rfl (lv_at hl 1 rfl) ?_
            refine lv_icmp_ge (tgt := 20) hx hb dJ7_fill_18040_7 (by decide) (fun c_11 => ?_) (fun c_11 => ?_)
            · exact absurd c_11 (by decide)
            · refine lv_aload_n hx hb dJ7_fill_18040_10 rfl (lv_at hl 2 rfl) ?_
              refine lv_iload_n hx hb dJ7_fill_18040_11 rfl (lv_at hl 0 rfl) ?_
              refine lv_iload_n hx hb dJ7_fill_18040_12 rfl (lv_at hl 3 rfl) ?_
              refine va_cast hx hb hK hP hD hS 0 0 rfl rfl (by unfold vp_in; decide) dJ7_fill_18040_13 (fun H locs hP hD hS => ?_)
              obtain ⟨f_12, ef_12⟩ : ∃ z, z = (upd f_10 (5 : Int32).toNatClampNeg (vp_nar .char v0)) := ⟨_, rfl⟩
              have hP : va_P (dC, dI) cls [(h0, .inl (k0, 7, .inl f_12))] H := by rw [ef_12]; exact hP
              have hD : va_D A [(h0, .inl (k0, 7, .inl f_12))] := by rw [ef_12]; exact hD
              refine lv_iinc (v := 6) (lv' := [(2, .int 6), (3, .int 7), (0, .ref h0), (1, .int v0)]) hx hb dJ7_fill_18040_14 hl (k := 0) rfl (by decide) (by decide) rfl (fun ls hl => ?_)
              refine lv_goto (tgt := 5) hx hb dJ7_fill_18040_17 (by decide) ?_
              refine lv_iload_n hx hb dJ7_fill_18040_5 rfl (lv_at hl 0 rfl) ?_
              refine lv_iload_n hx hb dJ7_fill_18040_6 rfl (lv_at hl 1 rfl) ?_
              refine lv_icmp_ge (tgt := 20) hx hb dJ7_fill_18040_7 (by decide) (fun c_13 => ?_) (fun c_13 => ?_)
              · exact absurd c_13 (by decide)
              · refine lv_aload_n hx hb dJ7_fill_18040_10 rfl (lv_at hl 2 rfl) ?_
                refine lv_iload_n hx hb dJ7_fill_18040_11 rfl (lv_at hl 0 rfl) ?_
                refine lv_iload_n hx hb dJ7_fill_18040_12 rfl (lv_at hl 3 rfl) ?_
                refine va_cast hx hb hK hP hD hS 0 0 rfl rfl (by unfold vp_in; decide) dJ7_fill_18040_13 (fun H locs hP hD hS => ?_)
                obtain ⟨f_14, ef_14⟩ : ∃ z, z = (upd f_12 (6 : Int32).toNatClampNeg (vp_nar .char v0)) := ⟨_, rfl⟩
                have hP : va_P (dC, dI) cls [(h0, .inl (k0, 7, .inl f_14))] H := by rw [ef_14]; exact hP
                have hD : va_D A [(h0, .inl (k0, 7, .inl f_14))] := by rw [ef_14]; exact hD
                refine lv_iinc (v := 7) (lv' := [(2, .int 7), (3, .int 7), (0, .ref h0), (1, .int v0)]) hx hb dJ7_fill_18040_14 hl (k := 0) rfl (by decide) (by decide) rfl (fun ls hl => ?_)
                refine lv_goto (tgt := 5) hx hb dJ7_fill_18040_17 (by decide) ?_
                refine lv_iload_n hx hb dJ7_fill_18040_5 rfl (lv_at hl 0 rfl) ?_
                refine lv_iload_n hx hb dJ7_fill_18040_6 rfl (lv_at hl 1 rfl) ?_
                refine lv_icmp_ge (tgt := 20) hx hb dJ7_fill_18040_7 (by decide) (fun c_15 => ?_) (fun c_15 => ?_)
                · refine W.widen (k := 0) (n := 0) (Nat.le_of_ble_eq_true rfl) (Nat.le_of_ble_eq_true rfl) ?_
                  exact W.vret hx hb hr (fun t ht hW => ⟨⟨(), rfl, trivial, trivial⟩, hS.F ht⟩) hS.2.2 dJ7_fill_18040_20
                · exact absurd c_15 (by decide)
abbrev cX12_init : ByteArray := prog_13_method_4_code
def yX12_init : MethodName := ⟨RX12, "<init>", "()V"⟩
theorem dX12_init_0 : decode cX12_init 0 = .ok (.aload_n 0, 1) := by decide +kernel
theorem dX12_init_1 : decode cX12_init 1 = .ok (.invokespecial 13, 3) := by decide +kernel
theorem q_1270 : (Cond.methodLink "NightfallVillageModel" 13 objectInit) ∈ tw := tw_in (i := 1270) (by decide +kernel) (by decide +kernel)
theorem dX12_init_4 : decode cX12_init 4 = .ok (.aload_n 0, 1) := by decide +kernel
theorem dX12_init_5 : decode cX12_init 5 = .ok (.new 19, 3) := by decide +kernel
theorem q_1271 : (Cond.classLink "NightfallVillageModel" 19 "java/util/ArrayList") ∈ tw := tw_in (i := 1271) (by decide +kernel) (by decide +kernel)
theorem q_1272 : (Cond.instantiable "java/util/ArrayList" 3) ∈ tw := tw_in (i := 1272) (by decide +kernel) (by decide +kernel)
theorem q_15 : (Cond.initialized "java/util/ArrayList") ∈ tw := tw_in (i := 15) (by decide +kernel) (by decide +kernel)
theorem dX12_init_8 : decode cX12_init 8 = .ok (.dup, 1) := by decide +kernel
theorem dX12_init_9 : decode cX12_init 9 = .ok (.invokespecial 21, 3) := by decide +kernel
theorem q_1275 : (Cond.code yJx4a65c_init_da8c8 cJx4a65c_init_da8c8 1 none) ∈ tw := tw_in (i := 1275) (by decide +kernel) (by decide +kernel)
theorem q_1273 : (Cond.methodLink "NightfallVillageModel" 21 yJx4a65c_init_da8c8) ∈ tw := tw_in (i := 1273) (by decide +kernel) (by decide +kernel)
theorem q_1274 : (Cond.instanceMethod yJx4a65c_init_da8c8) ∈ tw := tw_in (i := 1274) (by decide +kernel) (by decide +kernel)
theorem dX12_init_12 : decode cX12_init 12 = .ok (.putfield 22, 3) := by decide +kernel
theorem q_1305 : (Cond.fieldLink "NightfallVillageModel" 22 "NightfallVillageModel" "roles" "Ljava/util/List;") ∈ tw := tw_in (i := 1305) (by decide +kernel) (by decide +kernel)
theorem dX12_init_15 : decode cX12_init 15 = .ok (.aload_n 0, 1) := by decide +kernel
theorem dX12_init_16 : decode cX12_init 16 = .ok (.new 19, 3) := by decide +kernel
theorem dX12_init_19 : decode cX12_init 19 = .ok (.dup, 1) := by decide +kernel
theorem dX12_init_20 : decode cX12_init 20 = .ok (.invokespecial 21, 3) := by decide +kernel
theorem dX12_init_23 : decode cX12_init 23 = .ok (.putfield 26, 3) := by decide +kernel
theorem q_1306 : (Cond.fieldLink "NightfallVillageModel" 26 "NightfallVillageModel" "dealt" "Ljava/util/List;") ∈ tw := tw_in (i := 1306) (by decide +kernel) (by decide +kernel)
theorem dX12_init_26 : decode cX12_init 26 = .ok (.aload_n 0, 1) := by decide +kernel
theorem dX12_init_27 : decode cX12_init 27 = .ok (.bipush 7, 2) := by decide +kernel
theorem dX12_init_29 : decode cX12_init 29 = .ok (.newarray .int, 2) := by decide +kernel
theorem dX12_init_31 : decode cX12_init 31 = .ok (.putfield 29, 3) := by decide +kernel
theorem q_1307 : (Cond.fieldLink "NightfallVillageModel" 29 "NightfallVillageModel" "heirOf" "[I") ∈ tw := tw_in (i := 1307) (by decide +kernel) (by decide +kernel)
theorem dX12_init_34 : decode cX12_init 34 = .ok (.aload_n 0, 1) := by decide +kernel
theorem dX12_init_35 : decode cX12_init 35 = .ok (.iconst (-1), 1) := by decide +kernel
theorem dX12_init_36 : decode cX12_init 36 = .ok (.putfield 33, 3) := by decide +kernel
theorem q_1308 : (Cond.fieldLink "NightfallVillageModel" 33 "NightfallVillageModel" "lover" "I") ∈ tw := tw_in (i := 1308) (by decide +kernel) (by decide +kernel)
theorem dX12_init_39 : decode cX12_init 39 = .ok (.aload_n 0, 1) := by decide +kernel
theorem dX12_init_40 : decode cX12_init 40 = .ok (.iconst (-1), 1) := by decide +kernel
theorem dX12_init_41 : decode cX12_init 41 = .ok (.putfield 36, 3) := by decide +kernel
theorem q_1309 : (Cond.fieldLink "NightfallVillageModel" 36 "NightfallVillageModel" "beloved" "I") ∈ tw := tw_in (i := 1309) (by decide +kernel) (by decide +kernel)
theorem dX12_init_44 : decode cX12_init 44 = .ok (.aload_n 0, 1) := by decide +kernel
theorem dX12_init_45 : decode cX12_init 45 = .ok (.bipush 7, 2) := by decide +kernel
theorem dX12_init_47 : decode cX12_init 47 = .ok (.newarray .int, 2) := by decide +kernel
theorem dX12_init_49 : decode cX12_init 49 = .ok (.putfield 39, 3) := by decide +kernel
theorem q_1311 : (Cond.fieldLink "NightfallVillageModel" 39 "NightfallVillageModel" "own" "[I") ∈ tw := tw_in (i := 1311) (by decide +kernel) (by decide +kernel)
theorem dX12_init_52 : decode cX12_init 52 = .ok (.aload_n 0, 1) := by decide +kernel
theorem dX12_init_53 : decode cX12_init 53 = .ok (.bipush 7, 2) := by decide +kernel
theorem dX12_init_55 : decode cX12_init 55 = .ok (.newarray .int, 2) := by decide +kernel
theorem dX12_init_57 : decode cX12_init 57 = .ok (.putfield 42, 3) := by decide +kernel
theorem q_1312 : (Cond.fieldLink "NightfallVillageModel" 42 "NightfallVillageModel" "marked" "[I") ∈ tw := tw_in (i := 1312) (by decide +kernel) (by decide +kernel)
theorem dX12_init_60 : decode cX12_init 60 = .ok (.aload_n 0, 1) := by decide +kernel
theorem dX12_init_61 : decode cX12_init 61 = .ok (.bipush 7, 2) := by decide +kernel
theorem dX12_init_63 : decode cX12_init 63 = .ok (.newarray .int, 2) := by decide +kernel
theorem dX12_init_65 : decode cX12_init 65 = .ok (.putfield 45, 3) := by decide +kernel
theorem q_1313 : (Cond.fieldLink "NightfallVillageModel" 45 "NightfallVillageModel" "target" "[I") ∈ tw := tw_in (i := 1313) (by decide +kernel) (by decide +kernel)
theorem dX12_init_68 : decode cX12_init 68 = .ok (.aload_n 0, 1) := by decide +kernel
theorem dX12_init_69 : decode cX12_init 69 = .ok (.bipush 7, 2) := by decide +kernel
theorem dX12_init_71 : decode cX12_init 71 = .ok (.newarray .int, 2) := by decide +kernel
theorem dX12_init_73 : decode cX12_init 73 = .ok (.putfield 48, 3) := by decide +kernel
theorem q_1314 : (Cond.fieldLink "NightfallVillageModel" 48 "NightfallVillageModel" "votes" "[I") ∈ tw := tw_in (i := 1314) (by decide +kernel) (by decide +kernel)
theorem dX12_init_76 : decode cX12_init 76 = .ok (.aload_n 0, 1) := by decide +kernel
theorem dX12_init_77 : decode cX12_init 77 = .ok (.bipush 7, 2) := by decide +kernel
theorem dX12_init_79 : decode cX12_init 79 = .ok (.newarray .int, 2) := by decide +kernel
theorem dX12_init_81 : decode cX12_init 81 = .ok (.putfield 51, 3) := by decide +kernel
theorem q_1315 : (Cond.fieldLink "NightfallVillageModel" 51 "NightfallVillageModel" "ghostDay" "[I") ∈ tw := tw_in (i := 1315) (by decide +kernel) (by decide +kernel)
theorem dX12_init_84 : decode cX12_init 84 = .ok (.aload_n 0, 1) := by decide +kernel
theorem dX12_init_85 : decode cX12_init 85 = .ok (.bipush 7, 2) := by decide +kernel
theorem dX12_init_87 : decode cX12_init 87 = .ok (.newarray .int, 2) := by decide +kernel
theorem dX12_init_89 : decode cX12_init 89 = .ok (.putfield 54, 3) := by decide +kernel
theorem q_1316 : (Cond.fieldLink "NightfallVillageModel" 54 "NightfallVillageModel" "knownRole" "[I") ∈ tw := tw_in (i := 1316) (by decide +kernel) (by decide +kernel)
theorem dX12_init_92 : decode cX12_init 92 = .ok (.aload_n 0, 1) := by decide +kernel
theorem dX12_init_93 : decode cX12_init 93 = .ok (.bipush 7, 2) := by decide +kernel
theorem dX12_init_95 : decode cX12_init 95 = .ok (.newarray .char, 2) := by decide +kernel
theorem dX12_init_97 : decode cX12_init 97 = .ok (.putfield 57, 3) := by decide +kernel
theorem q_1317 : (Cond.fieldLink "NightfallVillageModel" 57 "NightfallVillageModel" "death" "[C") ∈ tw := tw_in (i := 1317) (by decide +kernel) (by decide +kernel)
theorem dX12_init_100 : decode cX12_init 100 = .ok (.aload_n 0, 1) := by decide +kernel
theorem dX12_init_101 : decode cX12_init 101 = .ok (.bipush 7, 2) := by decide +kernel
theorem dX12_init_103 : decode cX12_init 103 = .ok (.newarray .boolean, 2) := by decide +kernel
theorem dX12_init_105 : decode cX12_init 105 = .ok (.putfield 61, 3) := by decide +kernel
theorem q_1318 : (Cond.fieldLink "NightfallVillageModel" 61 "NightfallVillageModel" "isUsed" "[Z") ∈ tw := tw_in (i := 1318) (by decide +kernel) (by decide +kernel)
theorem dX12_init_108 : decode cX12_init 108 = .ok (.aload_n 0, 1) := by decide +kernel
theorem dX12_init_109 : decode cX12_init 109 = .ok (.bipush 7, 2) := by decide +kernel
theorem dX12_init_111 : decode cX12_init 111 = .ok (.newarray .boolean, 2) := by decide +kernel
theorem dX12_init_113 : decode cX12_init 113 = .ok (.putfield 65, 3) := by decide +kernel
theorem q_1319 : (Cond.fieldLink "NightfallVillageModel" 65 "NightfallVillageModel" "isSilenced" "[Z") ∈ tw := tw_in (i := 1319) (by decide +kernel) (by decide +kernel)
theorem dX12_init_116 : decode cX12_init 116 = .ok (.aload_n 0, 1) := by decide +kernel
theorem dX12_init_117 : decode cX12_init 117 = .ok (.bipush 45, 2) := by decide +kernel
theorem dX12_init_119 : decode cX12_init 119 = .ok (.putfield 68, 3) := by decide +kernel
theorem q_1324 : (Cond.fieldLink "NightfallVillageModel" 68 "NightfallVillageModel" "winner" "C") ∈ tw := tw_in (i := 1324) (by decide +kernel) (by decide +kernel)
theorem dX12_init_122 : decode cX12_init 122 = .ok (.aload_n 0, 1) := by decide +kernel
theorem dX12_init_123 : decode cX12_init 123 = .ok (.new 19, 3) := by decide +kernel
theorem dX12_init_126 : decode cX12_init 126 = .ok (.dup, 1) := by decide +kernel
theorem dX12_init_127 : decode cX12_init 127 = .ok (.invokespecial 21, 3) := by decide +kernel
theorem dX12_init_130 : decode cX12_init 130 = .ok (.putfield 72, 3) := by decide +kernel
theorem q_1325 : (Cond.fieldLink "NightfallVillageModel" 72 "NightfallVillageModel" "toldAt" "Ljava/util/List;") ∈ tw := tw_in (i := 1325) (by decide +kernel) (by decide +kernel)
theorem dX12_init_133 : decode cX12_init 133 = .ok (.aload_n 0, 1) := by decide +kernel
theorem dX12_init_134 : decode cX12_init 134 = .ok (.new 19, 3) := by decide +kernel
theorem dX12_init_137 : decode cX12_init 137 = .ok (.dup, 1) := by decide +kernel
theorem dX12_init_138 : decode cX12_init 138 = .ok (.invokespecial 21, 3) := by decide +kernel
theorem dX12_init_141 : decode cX12_init 141 = .ok (.putfield 75, 3) := by decide +kernel
theorem q_1326 : (Cond.fieldLink "NightfallVillageModel" 75 "NightfallVillageModel" "seenAt" "Ljava/util/List;") ∈ tw := tw_in (i := 1326) (by decide +kernel) (by decide +kernel)
theorem dX12_init_144 : decode cX12_init 144 = .ok (.aload_n 0, 1) := by decide +kernel
theorem dX12_init_145 : decode cX12_init 145 = .ok (.new 19, 3) := by decide +kernel
theorem dX12_init_148 : decode cX12_init 148 = .ok (.dup, 1) := by decide +kernel
theorem dX12_init_149 : decode cX12_init 149 = .ok (.invokespecial 21, 3) := by decide +kernel
theorem dX12_init_152 : decode cX12_init 152 = .ok (.putfield 78, 3) := by decide +kernel
theorem q_1327 : (Cond.fieldLink "NightfallVillageModel" 78 "NightfallVillageModel" "livedAt" "Ljava/util/List;") ∈ tw := tw_in (i := 1327) (by decide +kernel) (by decide +kernel)
theorem dX12_init_155 : decode cX12_init 155 = .ok (.aload_n 0, 1) := by decide +kernel
theorem dX12_init_156 : decode cX12_init 156 = .ok (.new 19, 3) := by decide +kernel
theorem dX12_init_159 : decode cX12_init 159 = .ok (.dup, 1) := by decide +kernel
theorem dX12_init_160 : decode cX12_init 160 = .ok (.invokespecial 21, 3) := by decide +kernel
theorem dX12_init_163 : decode cX12_init 163 = .ok (.putfield 81, 3) := by decide +kernel
theorem q_1328 : (Cond.fieldLink "NightfallVillageModel" 81 "NightfallVillageModel" "history" "Ljava/util/List;") ∈ tw := tw_in (i := 1328) (by decide +kernel) (by decide +kernel)
theorem dX12_init_166 : decode cX12_init 166 = .ok (.aload_n 0, 1) := by decide +kernel
theorem dX12_init_167 : decode cX12_init 167 = .ok (.new 19, 3) := by decide +kernel
theorem dX12_init_170 : decode cX12_init 170 = .ok (.dup, 1) := by decide +kernel
theorem dX12_init_171 : decode cX12_init 171 = .ok (.invokespecial 21, 3) := by decide +kernel
theorem dX12_init_174 : decode cX12_init 174 = .ok (.putfield 84, 3) := by decide +kernel
theorem q_1329 : (Cond.fieldLink "NightfallVillageModel" 84 "NightfallVillageModel" "claims" "Ljava/util/List;") ∈ tw := tw_in (i := 1329) (by decide +kernel) (by decide +kernel)
theorem dX12_init_177 : decode cX12_init 177 = .ok (.aload_n 0, 1) := by decide +kernel
theorem dX12_init_178 : decode cX12_init 178 = .ok (.getfield 29, 3) := by decide +kernel
theorem dX12_init_181 : decode cX12_init 181 = .ok (.iconst (-1), 1) := by decide +kernel
theorem dX12_init_182 : decode cX12_init 182 = .ok (.invokestatic 87, 3) := by decide +kernel
theorem q_404 : (Cond.code yJ7_fill_53178 cJ7_fill_53178 4 none) ∈ tw := tw_in (i := 404) (by decide +kernel) (by decide +kernel)
theorem q_16 : (Cond.initialized "java/util/Arrays") ∈ tw := tw_in (i := 16) (by decide +kernel) (by decide +kernel)
theorem q_1300 : (Cond.methodLink "NightfallVillageModel" 87 yJ7_fill_53178) ∈ tw := tw_in (i := 1300) (by decide +kernel) (by decide +kernel)
theorem q_403 : (Cond.static yJ7_fill_53178) ∈ tw := tw_in (i := 403) (by decide +kernel) (by decide +kernel)
theorem dX12_init_185 : decode cX12_init 185 = .ok (.aload_n 0, 1) := by decide +kernel
theorem dX12_init_186 : decode cX12_init 186 = .ok (.getfield 42, 3) := by decide +kernel
theorem dX12_init_189 : decode cX12_init 189 = .ok (.iconst (-1), 1) := by decide +kernel
theorem dX12_init_190 : decode cX12_init 190 = .ok (.invokestatic 87, 3) := by decide +kernel
theorem dX12_init_193 : decode cX12_init 193 = .ok (.aload_n 0, 1) := by decide +kernel
theorem dX12_init_194 : decode cX12_init 194 = .ok (.getfield 45, 3) := by decide +kernel
theorem dX12_init_197 : decode cX12_init 197 = .ok (.iconst (-1), 1) := by decide +kernel
theorem dX12_init_198 : decode cX12_init 198 = .ok (.invokestatic 87, 3) := by decide +kernel
theorem dX12_init_201 : decode cX12_init 201 = .ok (.aload_n 0, 1) := by decide +kernel
theorem dX12_init_202 : decode cX12_init 202 = .ok (.getfield 48, 3) := by decide +kernel
theorem dX12_init_205 : decode cX12_init 205 = .ok (.iconst (-1), 1) := by decide +kernel
theorem dX12_init_206 : decode cX12_init 206 = .ok (.invokestatic 87, 3) := by decide +kernel
theorem dX12_init_209 : decode cX12_init 209 = .ok (.aload_n 0, 1) := by decide +kernel
theorem dX12_init_210 : decode cX12_init 210 = .ok (.getfield 51, 3) := by decide +kernel
theorem dX12_init_213 : decode cX12_init 213 = .ok (.iconst (-1), 1) := by decide +kernel
theorem dX12_init_214 : decode cX12_init 214 = .ok (.invokestatic 87, 3) := by decide +kernel
theorem dX12_init_217 : decode cX12_init 217 = .ok (.aload_n 0, 1) := by decide +kernel
theorem dX12_init_218 : decode cX12_init 218 = .ok (.getfield 57, 3) := by decide +kernel
theorem dX12_init_221 : decode cX12_init 221 = .ok (.bipush 45, 2) := by decide +kernel
theorem dX12_init_223 : decode cX12_init 223 = .ok (.invokestatic 93, 3) := by decide +kernel
theorem q_1303 : (Cond.code yJ7_fill_18040 cJ7_fill_18040 4 none) ∈ tw := tw_in (i := 1303) (by decide +kernel) (by decide +kernel)
theorem q_1301 : (Cond.methodLink "NightfallVillageModel" 93 yJ7_fill_18040) ∈ tw := tw_in (i := 1301) (by decide +kernel) (by decide +kernel)
theorem q_1302 : (Cond.static yJ7_fill_18040) ∈ tw := tw_in (i := 1302) (by decide +kernel) (by decide +kernel)
theorem dX12_init_226 : decode cX12_init 226 = .ok (.return_, 1) := by decide +kernel
set_option maxHeartbeats 4000000 in
set_option maxRecDepth 100000 in
theorem c_M_init (l : Launch) (hst : l.stackTraces = false) (tE : Nat) (adK adV : Nat → Nat) (dC : Nat → ClassId) (dI : Nat → Nat → Nat) (h0 : Nat) (sz : Nat) : Met l yX12_init (Cond.code yX12_init cX12_init 1 none :: tw) ({ frames := 4, cells := 17, slots := 91, locals := 72 }) (va_Pc [.ref h0] (pre tE adK adV (dC, dI) [(h0, .inr (12, [.int 0, .null, .null, .null, .int 0, .int 0, .int 0, .null, .null, .null, .null, .null, .null, .null, .null, .null, .int 0, .int 0, .null, .int 0, .int 0, .null, .null, .null, .null, .null]))] [] sz)) (va_Qv (fun (_ : Unit) => True) (fun (_ : Unit) (t : State) => ∃ (lr : Nat) (ld : Nat) (o1 : Nat) (o2 : Nat) (o3 : Nat) (o4 : Nat) (o5 : Nat) (o6 : Nat) (o7 : Nat) (o8 : Nat) (o9 : Nat) (o10 : Nat) (t1 : Nat) (t2 : Nat) (t3 : Nat) (t4 : Nat) (t5 : Nat), va_P (dC, dI) cls [(h0, .inr (12, [.int 0, .ref lr, .ref ld, .ref o1, .int (-1), .int (-1), .int 0, .ref o2, .ref o3, .ref o4, .ref o5, .ref o6, .ref o7, .ref o8, .ref o9, .ref o10, .int 0, .int 0, .null, .int 0, .int 45, .ref t1, .ref t2, .ref t3, .ref t4, .ref t5])), (lr, .inr (14, [.int 0, .ref tE, .int 0])), (ld, .inr (14, [.int 0, .ref tE, .int 0]))] t.heap ∧ va_K (dC, dI) cls [] t ∧ va_D (va_A [(h0, .inr (12, [.int 0, .null, .null, .null, .int 0, .int 0, .int 0, .null, .null, .null, .null, .null, .null, .null, .null, .null, .int 0, .int 0, .null, .int 0, .int 0, .null, .null, .null, .null, .null]))] sz) [(h0, .inr (12, [.int 0, .ref lr, .ref ld, .ref o1, .int (-1), .int (-1), .int 0, .ref o2, .ref o3, .ref o4, .ref o5, .ref o6, .ref o7, .ref o8, .ref o9, .ref o10, .int 0, .int 0, .null, .int 0, .int 45, .ref t1, .ref t2, .ref t3, .ref t4, .ref t5])), (lr, .inr (14, [.int 0, .ref tE, .int 0])), (ld, .inr (14, [.int 0, .ref tE, .int 0]))]) (va_A [(h0, .inr (12, [.int 0, .null, .null, .null, .int 0, .int 0, .int 0, .null, .null, .null, .null, .null, .null, .null, .null, .null, .int 0, .int 0, .null, .int 0, .int 0, .null, .null, .null, .null, .null]))] sz)) 17 91 (va_A [(h0, .inr (12, [.int 0, .null, .null, .null, .int 0, .int 0, .int 0, .null, .null, .null, .null, .null, .null, .null, .null, .null, .int 0, .int 0, .null, .int 0, .int 0, .null, .null, .null, .null, .null]))] sz) := by
  refine Met.ofW (cc := cX12_init) (maxL := 1) (ret := none) (by decide) rfl ?_
  intro p e s m args below meth c s₁ B hml hv
  obtain ⟨rfl, hsz, hP, hK, hD0, ham⟩ := hv
  have hx := B.exec
  have hb := B.bytes
  have hr := B.returns
  have hts := atoms_spec B.pre
  have hq : ∀ w ∈ tw, w.before _ s = true := fun w h => hts w (List.mem_cons_of_mem _ h)
  have hown : s.vm.findClass RX12 = some m.cls := findClass_of_methodNamed B.named
  have hlocks := B.notSynchronized
  have hin : meth.name = "<init>" := (name_of_methodNamed B.named B.method).1
  subst hsz
  have hD := hD0.self (sz := s.heap.size)
  generalize hAe : va_A [(h0, .inr (12, [.int 0, .null, .null, .null, .int 0, .int 0, .int 0, .null, .null, .null, .null, .null, .null, .null, .null, .null, .int 0, .int 0, .null, .int 0, .int 0, .null, .null, .null, .null, .null]))] s.heap.size = A at hD ham ⊢
  have hA : ∀ q : Nat, s.heap.size ≤ q → A q := fun q h => by rw [← hAe]; exact Or.inr h
  have hS : va_S A s.heap s.heap [] := va_S.rf
  have hP : va_P (dC, dI) cls [(h0, .inr (12, [.int 0, .null, .null, .null, .int 0, .int 0, .int 0, .null, .null, .null, .null, .null, .null, .null, .null, .null, .int 0, .int 0, .null, .int 0, .int 0, .null, .null, .null, .null, .null]))] s.heap := hP
  have hl := lv_entry ([.ref h0]) (n := 1) (Nat.le_of_ble_eq_true rfl)
  rw [lg_entry_eq]
  generalize (lg_sl ([.ref h0]) ++ List.replicate (1 - (lg_sl ([.ref h0])).length) Slot.unset).toArray = ls at hl ⊢
  have hl : lv_has ls 1 [(0, .ref h0)] := hl
  refine lv_aload_n hx hb dX12_init_0 rfl (lv_at hl 0 rfl) ?_
  refine W.objInit hx hb hown (hq _ q_1270) (hq _ q_45) (hq _ q_46) rfl (by rw [hml]; exact hl.1) rfl dX12_init_1 (Nat.le_of_ble_eq_true rfl) (Nat.le_of_ble_eq_true rfl) ?_
  refine W.eq (g2 := F0 m 4 ls []) rfl ?_
  refine lv_aload_n hx hb dX12_init_4 rfl (lv_at hl 0 rfl) ?_
  refine va_new (ci := 14) (fs := [.int 0, .null, .int 0]) (C := RJx4a65c) (T := TJx4a65c) (N := 3) hx hb hq i_Jx4a65c tyJx4a65c tyJx4a65c_ok hown (hq _ q_1271) (hq _ q_1272) (hq _ q_15) hK hP hD hS hA rfl (fun j hj => by rcases (show j = 0 ∨ j = 1 ∨ j = 2 by omega) with rfl | rfl | rfl <;> rfl) (Nat.le_of_ble_eq_true rfl) (Nat.le_of_ble_eq_true rfl) dX12_init_5 (fun a_1 H hP hD hS => ?_)
  have hP : va_P (dC, dI) cls [(h0, .inr (12, [.int 0, .null, .null, .null, .int 0, .int 0, .int 0, .null, .null, .null, .null, .null, .null, .null, .null, .null, .int 0, .int 0, .null, .int 0, .int 0, .null, .null, .null, .null, .null])), (a_1, .inr (14, [.int 0, .null, .int 0]))] H := hP
  have hD : va_D A [(h0, .inr (12, [.int 0, .null, .null, .null, .int 0, .int 0, .int 0, .null, .null, .null, .null, .null, .null, .null, .null, .null, .int 0, .int 0, .null, .int 0, .int 0, .null, .null, .null, .null, .null])), (a_1, .inr (14, [.int 0, .null, .int 0]))] := hD
  refine W.widen (k := 1) (n := 3) (Nat.le_of_ble_eq_true rfl) (Nat.le_of_ble_eq_true rfl) ?_
  refine lv_dup hx hb dX12_init_8 rfl ?_
  have hPc := hP.sub (ws' := [(a_1, .inr (14, [.int 0, .null, .int 0]))]) [1] rfl
  have hKc := hK.sub (tys' := []) [] rfl
  have hDc := hD.sub (ws' := [(a_1, .inr (14, [.int 0, .null, .int 0]))]) [1] (by decide) rfl
  have hFc := va_free (wc := [(a_1, .inr (14, [.int 0, .null, .int 0]))]) hD hS hA [1] rfl
  refine va_callv (va_runI (As := []) (rest := [.ref a_1, .ref h0]) ⟨hx, hb, hml, hown, hq⟩ (c_AL_init l hst tE adK adV dC dI a_1 H.size) (tcI 0 hq q_1275 q_15 q_1273 q_1274 rfl rfl rfl (by decide +kernel) ⟨Nat.le_of_ble_eq_true rfl, Nat.le_of_ble_eq_true rfl⟩) (pre.S (pre.of hPc hDc hKc ham hS hFc)) rfl rfl hl.1 rfl (lv_room (Nat.le_of_ble_eq_true rfl)) dX12_init_9 ⟨Nat.le_of_ble_eq_true rfl, Nat.le_of_ble_eq_true rfl⟩) hS (fun q _ h => hFc q h) hFc (fun u t H1 locs ht hvm hw hB hz1 hk1 hS => ?_)
  obtain ⟨hP1, hK1, hD1⟩ := hB
  rw [ht] at hP1
  have hK1 := va_K.moved hvm.symm hK1
  obtain ⟨hP, hD⟩ := va_join (wr := [(h0, .inr (12, [.int 0, .null, .null, .null, .int 0, .int 0, .int 0, .null, .null, .null, .null, .null, .null, .null, .null, .null, .int 0, .int 0, .null, .int 0, .int 0, .null, .null, .null, .null, .null]))]) (w1 := [(a_1, .inr (14, [.int 0, .ref tE, .int 0]))]) (wc := [(a_1, .inr (14, [.int 0, .null, .int 0]))]) hP hD [1] [0] rfl rfl (by decide) (by decide) hk1 hFc hP1 hD1
  have hK := (hK.sub (tys' := []) [] rfl).app hK1
  generalize H1 = H at hP hS ⊢
  have hP : va_P (dC, dI) cls [(h0, .inr (12, [.int 0, .null, .null, .null, .int 0, .int 0, .int 0, .null, .null, .null, .null, .null, .null, .null, .null, .null, .int 0, .int 0, .null, .int 0, .int 0, .null, .null, .null, .null, .null])), (a_1, .inr (14, [.int 0, .ref tE, .int 0]))] H := hP
  have hD : va_D A [(h0, .inr (12, [.int 0, .null, .null, .null, .int 0, .int 0, .int 0, .null, .null, .null, .null, .null, .null, .null, .null, .null, .int 0, .int 0, .null, .int 0, .int 0, .null, .null, .null, .null, .null])), (a_1, .inr (14, [.int 0, .ref tE, .int 0]))] := hD
  have hK : va_K (dC, dI) cls [] s := hK
  refine W.widen (k := 1) (n := 3) (Nat.le_of_ble_eq_true rfl) (Nat.le_of_ble_eq_true rfl) ?_
  refine va_putF (D := (dC, dI)) (ci := 12) (v := .ref a_1) (ty := (.object "java/util/List")) (C := RX12) (T := TX12) (N := 26) hx hb hq i_X12 tyX12 tyX12_ok nmX12 hown hK hP hD hS 0 rfl rfl 1 (by decide) (hq _ q_1305) (fun _ h9 => h9) rfl hin rfl (by decide +kernel) rfl rfl (Nat.le_of_ble_eq_true rfl) dX12_init_12 (fun H locs hP hD hS => ?_)
  have hP : va_P (dC, dI) cls [(h0, .inr (12, [.int 0, .ref a_1, .null, .null, .int 0, .int 0, .int 0, .null, .null, .null, .null, .null, .null, .null, .null, .null, .int 0, .int 0, .null, .int 0, .int 0, .null, .null, .null, .null, .null])), (a_1, .inr (14, [.int 0, .ref tE, .int 0]))] H := hP
  have hD : va_D A [(h0, .inr (12, [.int 0, .ref a_1, .null, .null, .int 0, .int 0, .int 0, .null, .null, .null, .null, .null, .null, .null, .null, .null, .int 0, .int 0, .null, .int 0, .int 0, .null, .null, .null, .null, .null])), (a_1, .inr (14, [.int 0, .ref tE, .int 0]))] := hD
  refine lv_aload_n hx hb dX12_init_15 rfl (lv_at hl 0 rfl) ?_
  refine va_new (ci := 14) (fs := [.int 0, .null, .int 0]) (C := RJx4a65c) (T := TJx4a65c) (N := 3) hx hb hq i_Jx4a65c tyJx4a65c tyJx4a65c_ok hown (hq _ q_1271) (hq _ q_1272) (hq _ q_15) hK hP hD hS hA rfl (fun j hj => by rcases (show j = 0 ∨ j = 1 ∨ j = 2 by omega) with rfl | rfl | rfl <;> rfl) (Nat.le_of_ble_eq_true rfl) (Nat.le_of_ble_eq_true rfl) dX12_init_16 (fun a_3 H hP hD hS => ?_)
  have hP : va_P (dC, dI) cls [(h0, .inr (12, [.int 0, .ref a_1, .null, .null, .int 0, .int 0, .int 0, .null, .null, .null, .null, .null, .null, .null, .null, .null, .int 0, .int 0, .null, .int 0, .int 0, .null, .null, .null, .null, .null])), (a_1, .inr (14, [.int 0, .ref tE, .int 0])), (a_3, .inr (14, [.int 0, .null, .int 0]))] H := hP
  have hD : va_D A [(h0, .inr (12, [.int 0, .ref a_1, .null, .null, .int 0, .int 0, .int 0, .null, .null, .null, .null, .null, .null, .null, .null, .null, .int 0, .int 0, .null, .int 0, .int 0, .null, .null, .null, .null, .null])), (a_1, .inr (14, [.int 0, .ref tE, .int 0])), (a_3, .inr (14, [.int 0, .null, .int 0]))] := hD
  refine W.widen (k := 2) (n := 6) (Nat.le_of_ble_eq_true rfl) (Nat.le_of_ble_eq_true rfl) ?_
  refine lv_dup hx hb dX12_init_19 rfl ?_
  have hPc := hP.sub (ws' := [(a_3, .inr (14, [.int 0, .null, .int 0]))]) [2] rfl
  have hKc := hK.sub (tys' := []) [] rfl
  have hDc := hD.sub (ws' := [(a_3, .inr (14, [.int 0, .null, .int 0]))]) [2] (by decide) rfl
  have hFc := va_free (wc := [(a_3, .inr (14, [.int 0, .null, .int 0]))]) hD hS hA [2] rfl
  refine va_callv (va_runI (As := []) (rest := [.ref a_3, .ref h0]) ⟨hx, hb, hml, hown, hq⟩ (c_AL_init l hst tE adK adV dC dI a_3 H.size) (tcI 0 hq q_1275 q_15 q_1273 q_1274 rfl rfl rfl (by decide +kernel) ⟨Nat.le_of_ble_eq_true rfl, Nat.le_of_ble_eq_true rfl⟩) (pre.S (pre.of hPc hDc hKc ham hS hFc)) rfl rfl hl.1 rfl (lv_room (Nat.le_of_ble_eq_true rfl)) dX12_init_20 ⟨Nat.le_of_ble_eq_true rfl, Nat.le_of_ble_eq_true rfl⟩) hS (fun q _ h => hFc q h) hFc (fun u t H1 locs ht hvm hw hB hz1 hk1 hS => ?_)
  obtain ⟨hP1, hK1, hD1⟩ := hB
  rw [ht] at hP1
  have hK1 := va_K.moved hvm.symm hK1
  obtain ⟨hP, hD⟩ := va_join (wr := [(h0, .inr (12, [.int 0, .ref a_1, .null, .null, .int 0, .int 0, .int 0, .null, .null, .null, .null, .null, .null, .null, .null, .null, .int 0, .int 0, .null, .int 0, .int 0, .null, .null, .null, .null, .null])), (a_1, .inr (14, [.int 0, .ref tE, .int 0]))]) (w1 := [(a_3, .inr (14, [.int 0, .ref tE, .int 0]))]) (wc := [(a_3, .inr (14, [.int 0, .null, .int 0]))]) hP hD [2] [0, 1] rfl rfl (by decide) (by decide) hk1 hFc hP1 hD1
  have hK := (hK.sub (tys' := []) [] rfl).app hK1
  generalize H1 = H at hP hS ⊢
  have hP : va_P (dC, dI) cls [(h0, .inr (12, [.int 0, .ref a_1, .null, .null, .int 0, .int 0, .int 0, .null, .null, .null, .null, .null, .null, .null, .null, .null, .int 0, .int 0, .null, .int 0, .int 0, .null, .null, .null, .null, .null])), (a_1, .inr (14, [.int 0, .ref tE, .int 0])), (a_3, .inr (14, [.int 0, .ref tE, .int 0]))] H := hP
  have hD : va_D A [(h0, .inr (12, [.int 0, .ref a_1, .null, .null, .int 0, .int 0, .int 0, .null, .null, .null, .null, .null, .null, .null, .null, .null, .int 0, .int 0, .null, .int 0, .int 0, .null, .null, .null, .null, .null])), (a_1, .inr (14, [.int 0, .ref tE, .int 0])), (a_3, .inr (14, [.int 0, .ref tE, .int 0]))] := hD
  have hK : va_K (dC, dI) cls [] s := hK
  refine W.widen (k := 2) (n := 6) (Nat.le_of_ble_eq_true rfl) (Nat.le_of_ble_eq_true rfl) ?_
  refine va_putF (D := (dC, dI)) (ci := 12) (v := .ref a_3) (ty := (.object "java/util/List")) (C := RX12) (T := TX12) (N := 26) hx hb hq i_X12 tyX12 tyX12_ok nmX12 hown hK hP hD hS 0 rfl rfl 2 (by decide) (hq _ q_1306) (fun _ h9 => h9) rfl hin rfl (by decide +kernel) rfl rfl (Nat.le_of_ble_eq_true rfl) dX12_init_23 (fun H locs hP hD hS => ?_)
  have hP : va_P (dC, dI) cls [(h0, .inr (12, [.int 0, .ref a_1, .ref a_3, .null, .int 0, .int 0, .int 0, .null, .null, .null, .null, .null, .null, .null, .null, .null, .int 0, .int 0, .null, .int 0, .int 0, .null, .null, .null, .null, .null])), (a_1, .inr (14, [.int 0, .ref tE, .int 0])), (a_3, .inr (14, [.int 0, .ref tE, .int 0]))] H := hP
  have hD : va_D A [(h0, .inr (12, [.int 0, .ref a_1, .ref a_3, .null, .int 0, .int 0, .int 0, .null, .null, .null, .null, .null, .null, .null, .null, .null, .int 0, .int 0, .null, .int 0, .int 0, .null, .null, .null, .null, .null])), (a_1, .inr (14, [.int 0, .ref tE, .int 0])), (a_3, .inr (14, [.int 0, .ref tE, .int 0]))] := hD
  refine lv_aload_n hx hb dX12_init_26 rfl (lv_at hl 0 rfl) ?_
  refine lv_bipush (v := 7) hx hb dX12_init_27 (by decide) ?_
  refine va_newa (atype := .int) (a0 := (7, .inl (fun _ => 0))) hx hb (hq _ q_81) rfl hK hP hD hS hA (fun _ => rfl) (by decide) (by decide) (Nat.le_of_ble_eq_true rfl) (Nat.le_of_ble_eq_true rfl) (Nat.le_of_ble_eq_true rfl) dX12_init_29 (fun a_5 cA_6 H hK hP hD hS => ?_)
  have hP : va_P (dC, dI) cls [(h0, .inr (12, [.int 0, .ref a_1, .ref a_3, .null, .int 0, .int 0, .int 0, .null, .null, .null, .null, .null, .null, .null, .null, .null, .int 0, .int 0, .null, .int 0, .int 0, .null, .null, .null, .null, .null])), (a_1, .inr (14, [.int 0, .ref tE, .int 0])), (a_3, .inr (14, [.int 0, .ref tE, .int 0])), (a_5, .inl (cA_6, 7, .inl (fun _ => 0)))] H := hP
  have hD : va_D A [(h0, .inr (12, [.int 0, .ref a_1, .ref a_3, .null, .int 0, .int 0, .int 0, .null, .null, .null, .null, .null, .null, .null, .null, .null, .int 0, .int 0, .null, .int 0, .int 0, .null, .null, .null, .null, .null])), (a_1, .inr (14, [.int 0, .ref tE, .int 0])), (a_3, .inr (14, [.int 0, .ref tE, .int 0])), (a_5, .inl (cA_6, 7, .inl (fun _ => 0)))] := hD
  have hK : va_K (dC, dI) cls [(cA_6, .int)] s := hK
  refine W.widen (k := 3) (n := 13) (Nat.le_of_ble_eq_true rfl) (Nat.le_of_ble_eq_true rfl) ?_
  refine va_putF (D := (dC, dI)) (ci := 12) (v := .ref a_5) (ty := (.array .int)) (C := RX12) (T := TX12) (N := 26) hx hb hq i_X12 tyX12 tyX12_ok nmX12 hown hK hP hD hS 0 rfl rfl 3 (by decide) (hq _ q_1307) (fun _ h9 => h9) rfl hin rfl (by decide +kernel) rfl rfl (Nat.le_of_ble_eq_true rfl) dX12_init_31 (fun H locs hP hD hS => ?_)
  have hP : va_P (dC, dI) cls [(h0, .inr (12, [.int 0, .ref a_1, .ref a_3, .ref a_5, .int 0, .int 0, .int 0, .null, .null, .null, .null, .null, .null, .null, .null, .null, .int 0, .int 0, .null, .int 0, .int 0, .null, .null, .null, .null, .null])), (a_1, .inr (14, [.int 0, .ref tE, .int 0])), (a_3, .inr (14, [.int 0, .ref tE, .int 0])), (a_5, .inl (cA_6, 7, .inl (fun _ => 0)))] H := hP
  have hD : va_D A [(h0, .inr (12, [.int 0, .ref a_1, .ref a_3, .ref a_5, .int 0, .int 0, .int 0, .null, .null, .null, .null, .null, .null, .null, .null, .null, .int 0, .int 0, .null, .int 0, .int 0, .null, .null, .null, .null, .null])), (a_1, .inr (14, [.int 0, .ref tE, .int 0])), (a_3, .inr (14, [.int 0, .ref tE, .int 0])), (a_5, .inl (cA_6, 7, .inl (fun _ => 0)))] := hD
  refine lv_aload_n hx hb dX12_init_34 rfl (lv_at hl 0 rfl) ?_
  refine lv_iconst (v := (-1)) hx hb dX12_init_35 (by decide) ?_
  refine va_put (D := (dC, dI)) (ci := 12) (v := .int (-1)) (ty := .int) (C := RX12) (T := TX12) (N := 26) hx hb hq i_X12 tyX12 tyX12_ok nmX12 hown hK hP hD hS 0 rfl rfl 4 (by decide) (hq _ q_1308) (fun _ h9 => h9) rfl (by decide +kernel) rfl rfl (Nat.le_of_ble_eq_true rfl) dX12_init_36 (fun H locs hP hD hS => ?_)
  have hP : va_P (dC, dI) cls [(h0, .inr (12, [.int 0, .ref a_1, .ref a_3, .ref a_5, .int (-1), .int 0, .int 0, .null, .null, .null, .null, .null, .null, .null, .null, .null, .int 0, .int 0, .null, .int 0, .int 0, .null, .null, .null, .null, .null])), (a_1, .inr (14, [.int 0, .ref tE, .int 0])), (a_3, .inr (14, [.int 0, .ref tE, .int 0])), (a_5, .inl (cA_6, 7, .inl (fun _ => 0)))] H := hP
  have hD : va_D A [(h0, .inr (12, [.int 0, .ref a_1, .ref a_3, .ref a_5, .int (-1), .int 0, .int 0, .null, .null, .null, .null, .null, .null, .null, .null, .null, .int 0, .int 0, .null, .int 0, .int 0, .null, .null, .null, .null, .null])), (a_1, .inr (14, [.int 0, .ref tE, .int 0])), (a_3, .inr (14, [.int 0, .ref tE, .int 0])), (a_5, .inl (cA_6, 7, .inl (fun _ => 0)))] := hD
  refine lv_aload_n hx hb dX12_init_39 rfl (lv_at hl 0 rfl) ?_
  refine lv_iconst (v := (-1)) hx hb dX12_init_40 (by decide) ?_
  refine va_put (D := (dC, dI)) (ci := 12) (v := .int (-1)) (ty := .int) (C := RX12) (T := TX12) (N := 26) hx hb hq i_X12 tyX12 tyX12_ok nmX12 hown hK hP hD hS 0 rfl rfl 5 (by decide) (hq _ q_1309) (fun _ h9 => h9) rfl (by decide +kernel) rfl rfl (Nat.le_of_ble_eq_true rfl) dX12_init_41 (fun H locs hP hD hS => ?_)
  have hP : va_P (dC, dI) cls [(h0, .inr (12, [.int 0, .ref a_1, .ref a_3, .ref a_5, .int (-1), .int (-1), .int 0, .null, .null, .null, .null, .null, .null, .null, .null, .null, .int 0, .int 0, .null, .int 0, .int 0, .null, .null, .null, .null, .null])), (a_1, .inr (14, [.int 0, .ref tE, .int 0])), (a_3, .inr (14, [.int 0, .ref tE, .int 0])), (a_5, .inl (cA_6, 7, .inl (fun _ => 0)))] H := hP
  have hD : va_D A [(h0, .inr (12, [.int 0, .ref a_1, .ref a_3, .ref a_5, .int (-1), .int (-1), .int 0, .null, .null, .null, .null, .null, .null, .null, .null, .null, .int 0, .int 0, .null, .int 0, .int 0, .null, .null, .null, .null, .null])), (a_1, .inr (14, [.int 0, .ref tE, .int 0])), (a_3, .inr (14, [.int 0, .ref tE, .int 0])), (a_5, .inl (cA_6, 7, .inl (fun _ => 0)))] := hD
  refine lv_aload_n hx hb dX12_init_44 rfl (lv_at hl 0 rfl) ?_
  refine lv_bipush (v := 7) hx hb dX12_init_45 (by decide) ?_
  refine va_newa (atype := .int) (a0 := (7, .inl (fun _ => 0))) hx hb (hq _ q_81) rfl hK hP hD hS hA (fun _ => rfl) (by decide) (by decide) (Nat.le_of_ble_eq_true rfl) (Nat.le_of_ble_eq_true rfl) (Nat.le_of_ble_eq_true rfl) dX12_init_47 (fun a_7 cA_8 H hK hP hD hS => ?_)
  have hP : va_P (dC, dI) cls [(h0, .inr (12, [.int 0, .ref a_1, .ref a_3, .ref a_5, .int (-1), .int (-1), .int 0, .null, .null, .null, .null, .null, .null, .null, .null, .null, .int 0, .int 0, .null, .int 0, .int 0, .null, .null, .null, .null, .null])), (a_1, .inr (14, [.int 0, .ref tE, .int 0])), (a_3, .inr (14, [.int 0, .ref tE, .int 0])), (a_5, .inl (cA_6, 7, .inl (fun _ => 0))), (a_7, .inl (cA_8, 7, .inl (fun _ => 0)))] H := hP
  have hD : va_D A [(h0, .inr (12, [.int 0, .ref a_1, .ref a_3, .ref a_5, .int (-1), .int (-1), .int 0, .null, .null, .null, .null, .null, .null, .null, .null, .null, .int 0, .int 0, .null, .int 0, .int 0, .null, .null, .null, .null, .null])), (a_1, .inr (14, [.int 0, .ref tE, .int 0])), (a_3, .inr (14, [.int 0, .ref tE, .int 0])), (a_5, .inl (cA_6, 7, .inl (fun _ => 0))), (a_7, .inl (cA_8, 7, .inl (fun _ => 0)))] := hD
  have hK : va_K (dC, dI) cls [(cA_6, .int), (cA_8, .int)] s := hK
  refine W.widen (k := 4) (n := 20) (Nat.le_of_ble_eq_true rfl) (Nat.le_of_ble_eq_true rfl) ?_
  refine va_putF (D := (dC, dI)) (ci := 12) (v := .ref a_7) (ty := (.array .int)) (C := RX12) (T := TX12) (N := 26) hx hb hq i_X12 tyX12 tyX12_ok nmX12 hown hK hP hD hS 0 rfl rfl 7 (by decide) (hq _ q_1311) (fun _ h9 => h9) rfl hin rfl (by decide +kernel) rfl rfl (Nat.le_of_ble_eq_true rfl) dX12_init_49 (fun H locs hP hD hS => ?_)
  have hP : va_P (dC, dI) cls [(h0, .inr (12, [.int 0, .ref a_1, .ref a_3, .ref a_5, .int (-1), .int (-1), .int 0, .ref a_7, .null, .null, .null, .null, .null, .null, .null, .null, .int 0, .int 0, .null, .int 0, .int 0, .null, .null, .null, .null, .null])), (a_1, .inr (14, [.int 0, .ref tE, .int 0])), (a_3, .inr (14, [.int 0, .ref tE, .int 0])), (a_5, .inl (cA_6, 7, .inl (fun _ => 0))), (a_7, .inl (cA_8, 7, .inl (fun _ => 0)))] H := hP
  have hD : va_D A [(h0, .inr (12, [.int 0, .ref a_1, .ref a_3, .ref a_5, .int (-1), .int (-1), .int 0, .ref a_7, .null, .null, .null, .null, .null, .null, .null, .null, .int 0, .int 0, .null, .int 0, .int 0, .null, .null, .null, .null, .null])), (a_1, .inr (14, [.int 0, .ref tE, .int 0])), (a_3, .inr (14, [.int 0, .ref tE, .int 0])), (a_5, .inl (cA_6, 7, .inl (fun _ => 0))), (a_7, .inl (cA_8, 7, .inl (fun _ => 0)))] := hD
  refine lv_aload_n hx hb dX12_init_52 rfl (lv_at hl 0 rfl) ?_
  refine lv_bipush (v := 7) hx hb dX12_init_53 (by decide) ?_
  refine va_newa (atype := .int) (a0 := (7, .inl (fun _ => 0))) hx hb (hq _ q_81) rfl hK hP hD hS hA (fun _ => rfl) (by decide) (by decide) (Nat.le_of_ble_eq_true rfl) (Nat.le_of_ble_eq_true rfl) (Nat.le_of_ble_eq_true rfl) dX12_init_55 (fun a_9 cA_10 H hK hP hD hS => ?_)
  have hP : va_P (dC, dI) cls [(h0, .inr (12, [.int 0, .ref a_1, .ref a_3, .ref a_5, .int (-1), .int (-1), .int 0, .ref a_7, .null, .null, .null, .null, .null, .null, .null, .null, .int 0, .int 0, .null, .int 0, .int 0, .null, .null, .null, .null, .null])), (a_1, .inr (14, [.int 0, .ref tE, .int 0])), (a_3, .inr (14, [.int 0, .ref tE, .int 0])), (a_5, .inl (cA_6, 7, .inl (fun _ => 0))), (a_7, .inl (cA_8, 7, .inl (fun _ => 0))), (a_9, .inl (cA_10, 7, .inl (fun _ => 0)))] H := hP
  have hD : va_D A [(h0, .inr (12, [.int 0, .ref a_1, .ref a_3, .ref a_5, .int (-1), .int (-1), .int 0, .ref a_7, .null, .null, .null, .null, .null, .null, .null, .null, .int 0, .int 0, .null, .int 0, .int 0, .null, .null, .null, .null, .null])), (a_1, .inr (14, [.int 0, .ref tE, .int 0])), (a_3, .inr (14, [.int 0, .ref tE, .int 0])), (a_5, .inl (cA_6, 7, .inl (fun _ => 0))), (a_7, .inl (cA_8, 7, .inl (fun _ => 0))), (a_9, .inl (cA_10, 7, .inl (fun _ => 0)))] := hD
  have hK : va_K (dC, dI) cls [(cA_6, .int), (cA_8, .int), (cA_10, .int)] s := hK
  refine W.widen (k := 5) (n := 27) (Nat.le_of_ble_eq_true rfl) (Nat.le_of_ble_eq_true rfl) ?_
  refine va_putF (D := (dC, dI)) (ci := 12) (v := .ref a_9) (ty := (.array .int)) (C := RX12) (T := TX12) (N := 26) hx hb hq i_X12 tyX12 tyX12_ok nmX12 hown hK hP hD hS 0 rfl rfl 8 (by decide) (hq _ q_1312) (fun _ h9 => h9) rfl hin rfl (by decide +kernel) rfl rfl (Nat.le_of_ble_eq_true rfl) dX12_init_57 (fun H locs hP hD hS => ?_)
  have hP : va_P (dC, dI) cls [(h0, .inr (12, [.int 0, .ref a_1, .ref a_3, .ref a_5, .int (-1), .int (-1), .int 0, .ref a_7, .ref a_9, .null, .null, .null, .null, .null, .null, .null, .int 0, .int 0, .null, .int 0, .int 0, .null, .null, .null, .null, .null])), (a_1, .inr (14, [.int 0, .ref tE, .int 0])), (a_3, .inr (14, [.int 0, .ref tE, .int 0])), (a_5, .inl (cA_6, 7, .inl (fun _ => 0))), (a_7, .inl (cA_8, 7, .inl (fun _ => 0))), (a_9, .inl (cA_10, 7, .inl (fun _ => 0)))] H := hP
  have hD : va_D A [(h0, .inr (12, [.int 0, .ref a_1, .ref a_3, .ref a_5, .int (-1), .int (-1), .int 0, .ref a_7, .ref a_9, .null, .null, .null, .null, .null, .null, .null, .int 0, .int 0, .null, .int 0, .int 0, .null, .null, .null, .null, .null])), (a_1, .inr (14, [.int 0, .ref tE, .int 0])), (a_3, .inr (14, [.int 0, .ref tE, .int 0])), (a_5, .inl (cA_6, 7, .inl (fun _ => 0))), (a_7, .inl (cA_8, 7, .inl (fun _ => 0))), (a_9, .inl (cA_10, 7, .inl (fun _ => 0)))] := hD
  refine lv_aload_n hx hb dX12_init_60 rfl (lv_at hl 0 rfl) ?_
  refine lv_bipush (v := 7) hx hb dX12_init_61 (by decide) ?_
  refine va_newa (atype := .int) (a0 := (7, .inl (fun _ => 0))) hx hb (hq _ q_81) rfl hK hP hD hS hA (fun _ => rfl) (by decide) (by decide) (Nat.le_of_ble_eq_true rfl) (Nat.le_of_ble_eq_true rfl) (Nat.le_of_ble_eq_true rfl) dX12_init_63 (fun a_11 cA_12 H hK hP hD hS => ?_)
  have hP : va_P (dC, dI) cls [(h0, .inr (12, [.int 0, .ref a_1, .ref a_3, .ref a_5, .int (-1), .int (-1), .int 0, .ref a_7, .ref a_9, .null, .null, .null, .null, .null, .null, .null, .int 0, .int 0, .null, .int 0, .int 0, .null, .null, .null, .null, .null])), (a_1, .inr (14, [.int 0, .ref tE, .int 0])), (a_3, .inr (14, [.int 0, .ref tE, .int 0])), (a_5, .inl (cA_6, 7, .inl (fun _ => 0))), (a_7, .inl (cA_8, 7, .inl (fun _ => 0))), (a_9, .inl (cA_10, 7, .inl (fun _ => 0))), (a_11, .inl (cA_12, 7, .inl (fun _ => 0)))] H := hP
  have hD : va_D A [(h0, .inr (12, [.int 0, .ref a_1, .ref a_3, .ref a_5, .int (-1), .int (-1), .int 0, .ref a_7, .ref a_9, .null, .null, .null, .null, .null, .null, .null, .int 0, .int 0, .null, .int 0, .int 0, .null, .null, .null, .null, .null])), (a_1, .inr (14, [.int 0, .ref tE, .int 0])), (a_3, .inr (14, [.int 0, .ref tE, .int 0])), (a_5, .inl (cA_6, 7, .inl (fun _ => 0))), (a_7, .inl (cA_8, 7, .inl (fun _ => 0))), (a_9, .inl (cA_10, 7, .inl (fun _ => 0))), (a_11, .inl (cA_12, 7, .inl (fun _ => 0)))] := hD
  have hK : va_K (dC, dI) cls [(cA_6, .int), (cA_8, .int), (cA_10, .int), (cA_12, .int)] s := hK
  refine W.widen (k := 6) (n := 34) (Nat.le_of_ble_eq_true rfl) (Nat.le_of_ble_eq_true rfl) ?_
  refine va_putF (D := (dC, dI)) (ci := 12) (v := .ref a_11) (ty := (.array .int)) (C := RX12) (T := TX12) (N := 26) hx hb hq i_X12 tyX12 tyX12_ok nmX12 hown hK hP hD hS 0 rfl rfl 9 (by decide) (hq _ q_1313) (fun _ h9 => h9) rfl hin rfl (by decide +kernel) rfl rfl (Nat.le_of_ble_eq_true rfl) dX12_init_65 (fun H locs hP hD hS => ?_)
  have hP : va_P (dC, dI) cls [(h0, .inr (12, [.int 0, .ref a_1, .ref a_3, .ref a_5, .int (-1), .int (-1), .int 0, .ref a_7, .ref a_9, .ref a_11, .null, .null, .null, .null, .null, .null, .int 0, .int 0, .null, .int 0, .int 0, .null, .null, .null, .null, .null])), (a_1, .inr (14, [.int 0, .ref tE, .int 0])), (a_3, .inr (14, [.int 0, .ref tE, .int 0])), (a_5, .inl (cA_6, 7, .inl (fun _ => 0))), (a_7, .inl (cA_8, 7, .inl (fun _ => 0))), (a_9, .inl (cA_10, 7, .inl (fun _ => 0))), (a_11, .inl (cA_12, 7, .inl (fun _ => 0)))] H := hP
  have hD : va_D A [(h0, .inr (12, [.int 0, .ref a_1, .ref a_3, .ref a_5, .int (-1), .int (-1), .int 0, .ref a_7, .ref a_9, .ref a_11, .null, .null, .null, .null, .null, .null, .int 0, .int 0, .null, .int 0, .int 0, .null, .null, .null, .null, .null])), (a_1, .inr (14, [.int 0, .ref tE, .int 0])), (a_3, .inr (14, [.int 0, .ref tE, .int 0])), (a_5, .inl (cA_6, 7, .inl (fun _ => 0))), (a_7, .inl (cA_8, 7, .inl (fun _ => 0))), (a_9, .inl (cA_10, 7, .inl (fun _ => 0))), (a_11, .inl (cA_12, 7, .inl (fun _ => 0)))] := hD
  refine lv_aload_n hx hb dX12_init_68 rfl (lv_at hl 0 rfl) ?_
  refine lv_bipush (v := 7) hx hb dX12_init_69 (by decide) ?_
  refine va_newa (atype := .int) (a0 := (7, .inl (fun _ => 0))) hx hb (hq _ q_81) rfl hK hP hD hS hA (fun _ => rfl) (by decide) (by decide) (Nat.le_of_ble_eq_true rfl) (Nat.le_of_ble_eq_true rfl) (Nat.le_of_ble_eq_true rfl) dX12_init_71 (fun a_13 cA_14 H hK hP hD hS => ?_)
  have hP : va_P (dC, dI) cls [(h0, .inr (12, [.int 0, .ref a_1, .ref a_3, .ref a_5, .int (-1), .int (-1), .int 0, .ref a_7, .ref a_9, .ref a_11, .null, .null, .null, .null, .null, .null, .int 0, .int 0, .null, .int 0, .int 0, .null, .null, .null, .null, .null])), (a_1, .inr (14, [.int 0, .ref tE, .int 0])), (a_3, .inr (14, [.int 0, .ref tE, .int 0])), (a_5, .inl (cA_6, 7, .inl (fun _ => 0))), (a_7, .inl (cA_8, 7, .inl (fun _ => 0))), (a_9, .inl (cA_10, 7, .inl (fun _ => 0))), (a_11, .inl (cA_12, 7, .inl (fun _ => 0))), (a_13, .inl (cA_14, 7, .inl (fun _ => 0)))] H := hP
  have hD : va_D A [(h0, .inr (12, [.int 0, .ref a_1, .ref a_3, .ref a_5, .int (-1), .int (-1), .int 0, .ref a_7, .ref a_9, .ref a_11, .null, .null, .null, .null, .null, .null, .int 0, .int 0, .null, .int 0, .int 0, .null, .null, .null, .null, .null])), (a_1, .inr (14, [.int 0, .ref tE, .int 0])), (a_3, .inr (14, [.int 0, .ref tE, .int 0])), (a_5, .inl (cA_6, 7, .inl (fun _ => 0))), (a_7, .inl (cA_8, 7, .inl (fun _ => 0))), (a_9, .inl (cA_10, 7, .inl (fun _ => 0))), (a_11, .inl (cA_12, 7, .inl (fun _ => 0))), (a_13, .inl (cA_14, 7, .inl (fun _ => 0)))] := hD
  have hK : va_K (dC, dI) cls [(cA_6, .int), (cA_8, .int), (cA_10, .int), (cA_12, .int), (cA_14, .int)] s := hK
  refine W.widen (k := 7) (n := 41) (Nat.le_of_ble_eq_true rfl) (Nat.le_of_ble_eq_true rfl) ?_
  refine va_putF (D := (dC, dI)) (ci := 12) (v := .ref a_13) (ty := (.array .int)) (C := RX12) (T := TX12) (N := 26) hx hb hq i_X12 tyX12 tyX12_ok nmX12 hown hK hP hD hS 0 rfl rfl 10 (by decide) (hq _ q_1314) (fun _ h9 => h9) rfl hin rfl (by decide +kernel) rfl rfl (Nat.le_of_ble_eq_true rfl) dX12_init_73 (fun H locs hP hD hS => ?_)
  have hP : va_P (dC, dI) cls [(h0, .inr (12, [.int 0, .ref a_1, .ref a_3, .ref a_5, .int (-1), .int (-1), .int 0, .ref a_7, .ref a_9, .ref a_11, .ref a_13, .null, .null, .null, .null, .null, .int 0, .int 0, .null, .int 0, .int 0, .null, .null, .null, .null, .null])), (a_1, .inr (14, [.int 0, .ref tE, .int 0])), (a_3, .inr (14, [.int 0, .ref tE, .int 0])), (a_5, .inl (cA_6, 7, .inl (fun _ => 0))), (a_7, .inl (cA_8, 7, .inl (fun _ => 0))), (a_9, .inl (cA_10, 7, .inl (fun _ => 0))), (a_11, .inl (cA_12, 7, .inl (fun _ => 0))), (a_13, .inl (cA_14, 7, .inl (fun _ => 0)))] H := hP
  have hD : va_D A [(h0, .inr (12, [.int 0, .ref a_1, .ref a_3, .ref a_5, .int (-1), .int (-1), .int 0, .ref a_7, .ref a_9, .ref a_11, .ref a_13, .null, .null, .null, .null, .null, .int 0, .int 0, .null, .int 0, .int 0, .null, .null, .null, .null, .null])), (a_1, .inr (14, [.int 0, .ref tE, .int 0])), (a_3, .inr (14, [.int 0, .ref tE, .int 0])), (a_5, .inl (cA_6, 7, .inl (fun _ => 0))), (a_7, .inl (cA_8, 7, .inl (fun _ => 0))), (a_9, .inl (cA_10, 7, .inl (fun _ => 0))), (a_11, .inl (cA_12, 7, .inl (fun _ => 0))), (a_13, .inl (cA_14, 7, .inl (fun _ => 0)))] := hD
  refine lv_aload_n hx hb dX12_init_76 rfl (lv_at hl 0 rfl) ?_
  refine lv_bipush (v := 7) hx hb dX12_init_77 (by decide) ?_
  refine va_newa (atype := .int) (a0 := (7, .inl (fun _ => 0))) hx hb (hq _ q_81) rfl hK hP hD hS hA (fun _ => rfl) (by decide) (by decide) (Nat.le_of_ble_eq_true rfl) (Nat.le_of_ble_eq_true rfl) (Nat.le_of_ble_eq_true rfl) dX12_init_79 (fun a_15 cA_16 H hK hP hD hS => ?_)
  have hP : va_P (dC, dI) cls [(h0, .inr (12, [.int 0, .ref a_1, .ref a_3, .ref a_5, .int (-1), .int (-1), .int 0, .ref a_7, .ref a_9, .ref a_11, .ref a_13, .null, .null, .null, .null, .null, .int 0, .int 0, .null, .int 0, .int 0, .null, .null, .null, .null, .null])), (a_1, .inr (14, [.int 0, .ref tE, .int 0])), (a_3, .inr (14, [.int 0, .ref tE, .int 0])), (a_5, .inl (cA_6, 7, .inl (fun _ => 0))), (a_7, .inl (cA_8, 7, .inl (fun _ => 0))), (a_9, .inl (cA_10, 7, .inl (fun _ => 0))), (a_11, .inl (cA_12, 7, .inl (fun _ => 0))), (a_13, .inl (cA_14, 7, .inl (fun _ => 0))), (a_15, .inl (cA_16, 7, .inl (fun _ => 0)))] H := hP
  have hD : va_D A [(h0, .inr (12, [.int 0, .ref a_1, .ref a_3, .ref a_5, .int (-1), .int (-1), .int 0, .ref a_7, .ref a_9, .ref a_11, .ref a_13, .null, .null, .null, .null, .null, .int 0, .int 0, .null, .int 0, .int 0, .null, .null, .null, .null, .null])), (a_1, .inr (14, [.int 0, .ref tE, .int 0])), (a_3, .inr (14, [.int 0, .ref tE, .int 0])), (a_5, .inl (cA_6, 7, .inl (fun _ => 0))), (a_7, .inl (cA_8, 7, .inl (fun _ => 0))), (a_9, .inl (cA_10, 7, .inl (fun _ => 0))), (a_11, .inl (cA_12, 7, .inl (fun _ => 0))), (a_13, .inl (cA_14, 7, .inl (fun _ => 0))), (a_15, .inl (cA_16, 7, .inl (fun _ => 0)))] := hD
  have hK : va_K (dC, dI) cls [(cA_6, .int), (cA_8, .int), (cA_10, .int), (cA_12, .int), (cA_14, .int), (cA_16, .int)] s := hK
  refine W.widen (k := 8) (n := 48) (Nat.le_of_ble_eq_true rfl) (Nat.le_of_ble_eq_true rfl) ?_
  refine va_putF (D := (dC, dI)) (ci := 12) (v := .ref a_15) (ty := (.array .int)) (C := RX12) (T := TX12) (N := 26) hx hb hq i_X12 tyX12 tyX12_ok nmX12 hown hK hP hD hS 0 rfl rfl 11 (by decide) (hq _ q_1315) (fun _ h9 => h9) rfl hin rfl (by decide +kernel) rfl rfl (Nat.le_of_ble_eq_true rfl) dX12_init_81 (fun H locs hP hD hS => ?_)
  have hP : va_P (dC, dI) cls [(h0, .inr (12, [.int 0, .ref a_1, .ref a_3, .ref a_5, .int (-1), .int (-1), .int 0, .ref a_7, .ref a_9, .ref a_11, .ref a_13, .ref a_15, .null, .null, .null, .null, .int 0, .int 0, .null, .int 0, .int 0, .null, .null, .null, .null, .null])), (a_1, .inr (14, [.int 0, .ref tE, .int 0])), (a_3, .inr (14, [.int 0, .ref tE, .int 0])), (a_5, .inl (cA_6, 7, .inl (fun _ => 0))), (a_7, .inl (cA_8, 7, .inl (fun _ => 0))), (a_9, .inl (cA_10, 7, .inl (fun _ => 0))), (a_11, .inl (cA_12, 7, .inl (fun _ => 0))), (a_13, .inl (cA_14, 7, .inl (fun _ => 0))), (a_15, .inl (cA_16, 7, .inl (fun _ => 0)))] H := hP
  have hD : va_D A [(h0, .inr (12, [.int 0, .ref a_1, .ref a_3, .ref a_5, .int (-1), .int (-1), .int 0, .ref a_7, .ref a_9, .ref a_11, .ref a_13, .ref a_15, .null, .null, .null, .null, .int 0, .int 0, .null, .int 0, .int 0, .null, .null, .null, .null, .null])), (a_1, .inr (14, [.int 0, .ref tE, .int 0])), (a_3, .inr (14, [.int 0, .ref tE, .int 0])), (a_5, .inl (cA_6, 7, .inl (fun _ => 0))), (a_7, .inl (cA_8, 7, .inl (fun _ => 0))), (a_9, .inl (cA_10, 7, .inl (fun _ => 0))), (a_11, .inl (cA_12, 7, .inl (fun _ => 0))), (a_13, .inl (cA_14, 7, .inl (fun _ => 0))), (a_15, .inl (cA_16, 7, .inl (fun _ => 0)))] := hD
  refine lv_aload_n hx hb dX12_init_84 rfl (lv_at hl 0 rfl) ?_
  refine lv_bipush (v := 7) hx hb dX12_init_85 (by decide) ?_
  refine va_newa (atype := .int) (a0 := (7, .inl (fun _ => 0))) hx hb (hq _ q_81) rfl hK hP hD hS hA (fun _ => rfl) (by decide) (by decide) (Nat.le_of_ble_eq_true rfl) (Nat.le_of_ble_eq_true rfl) (Nat.le_of_ble_eq_true rfl) dX12_init_87 (fun a_17 cA_18 H hK hP hD hS => ?_)
  have hP : va_P (dC, dI) cls [(h0, .inr (12, [.int 0, .ref a_1, .ref a_3, .ref a_5, .int (-1), .int (-1), .int 0, .ref a_7, .ref a_9, .ref a_11, .ref a_13, .ref a_15, .null, .null, .null, .null, .int 0, .int 0, .null, .int 0, .int 0, .null, .null, .null, .null, .null])), (a_1, .inr (14, [.int 0, .ref tE, .int 0])), (a_3, .inr (14, [.int 0, .ref tE, .int 0])), (a_5, .inl (cA_6, 7, .inl (fun _ => 0))), (a_7, .inl (cA_8, 7, .inl (fun _ => 0))), (a_9, .inl (cA_10, 7, .inl (fun _ => 0))), (a_11, .inl (cA_12, 7, .inl (fun _ => 0))), (a_13, .inl (cA_14, 7, .inl (fun _ => 0))), (a_15, .inl (cA_16, 7, .inl (fun _ => 0))), (a_17, .inl (cA_18, 7, .inl (fun _ => 0)))] H := hP
  have hD : va_D A [(h0, .inr (12, [.int 0, .ref a_1, .ref a_3, .ref a_5, .int (-1), .int (-1), .int 0, .ref a_7, .ref a_9, .ref a_11, .ref a_13, .ref a_15, .null, .null, .null, .null, .int 0, .int 0, .null, .int 0, .int 0, .null, .null, .null, .null, .null])), (a_1, .inr (14, [.int 0, .ref tE, .int 0])), (a_3, .inr (14, [.int 0, .ref tE, .int 0])), (a_5, .inl (cA_6, 7, .inl (fun _ => 0))), (a_7, .inl (cA_8, 7, .inl (fun _ => 0))), (a_9, .inl (cA_10, 7, .inl (fun _ => 0))), (a_11, .inl (cA_12, 7, .inl (fun _ => 0))), (a_13, .inl (cA_14, 7, .inl (fun _ => 0))), (a_15, .inl (cA_16, 7, .inl (fun _ => 0))), (a_17, .inl (cA_18, 7, .inl (fun _ => 0)))] := hD
  have hK : va_K (dC, dI) cls [(cA_6, .int), (cA_8, .int), (cA_10, .int), (cA_12, .int), (cA_14, .int), (cA_16, .int), (cA_18, .int)] s := hK
  refine W.widen (k := 9) (n := 55) (Nat.le_of_ble_eq_true rfl) (Nat.le_of_ble_eq_true rfl) ?_
  refine va_putF (D := (dC, dI)) (ci := 12) (v := .ref a_17) (ty := (.array .int)) (C := RX12) (T := TX12) (N := 26) hx hb hq i_X12 tyX12 tyX12_ok nmX12 hown hK hP hD hS 0 rfl rfl 12 (by decide) (hq _ q_1316) (fun _ h9 => h9) rfl hin rfl (by decide +kernel) rfl rfl (Nat.le_of_ble_eq_true rfl) dX12_init_89 (fun H locs hP hD hS => ?_)
  have hP : va_P (dC, dI) cls [(h0, .inr (12, [.int 0, .ref a_1, .ref a_3, .ref a_5, .int (-1), .int (-1), .int 0, .ref a_7, .ref a_9, .ref a_11, .ref a_13, .ref a_15, .ref a_17, .null, .null, .null, .int 0, .int 0, .null, .int 0, .int 0, .null, .null, .null, .null, .null])), (a_1, .inr (14, [.int 0, .ref tE, .int 0])), (a_3, .inr (14, [.int 0, .ref tE, .int 0])), (a_5, .inl (cA_6, 7, .inl (fun _ => 0))), (a_7, .inl (cA_8, 7, .inl (fun _ => 0))), (a_9, .inl (cA_10, 7, .inl (fun _ => 0))), (a_11, .inl (cA_12, 7, .inl (fun _ => 0))), (a_13, .inl (cA_14, 7, .inl (fun _ => 0))), (a_15, .inl (cA_16, 7, .inl (fun _ => 0))), (a_17, .inl (cA_18, 7, .inl (fun _ => 0)))] H := hP
  have hD : va_D A [(h0, .inr (12, [.int 0, .ref a_1, .ref a_3, .ref a_5, .int (-1), .int (-1), .int 0, .ref a_7, .ref a_9, .ref a_11, .ref a_13, .ref a_15, .ref a_17, .null, .null, .null, .int 0, .int 0, .null, .int 0, .int 0, .null, .null, .null, .null, .null])), (a_1, .inr (14, [.int 0, .ref tE, .int 0])), (a_3, .inr (14, [.int 0, .ref tE, .int 0])), (a_5, .inl (cA_6, 7, .inl (fun _ => 0))), (a_7, .inl (cA_8, 7, .inl (fun _ => 0))), (a_9, .inl (cA_10, 7, .inl (fun _ => 0))), (a_11, .inl (cA_12, 7, .inl (fun _ => 0))), (a_13, .inl (cA_14, 7, .inl (fun _ => 0))), (a_15, .inl (cA_16, 7, .inl (fun _ => 0))), (a_17, .inl (cA_18, 7, .inl (fun _ => 0)))] := hD
  refine lv_aload_n hx hb dX12_init_92 rfl (lv_at hl 0 rfl) ?_
  refine lv_bipush (v := 7) hx hb dX12_init_93 (by decide) ?_
  refine va_newa (atype := .char) (a0 := (7, .inl (fun _ => 0))) hx hb (hq _ q_80) rfl hK hP hD hS hA (fun _ => rfl) (by decide) (by decide) (Nat.le_of_ble_eq_true rfl) (Nat.le_of_ble_eq_true rfl) (Nat.le_of_ble_eq_true rfl) dX12_init_95 (fun a_19 cA_20 H hK hP hD hS => ?_)
  have hP : va_P (dC, dI) cls [(h0, .inr (12, [.int 0, .ref a_1, .ref a_3, .ref a_5, .int (-1), .int (-1), .int 0, .ref a_7, .ref a_9, .ref a_11, .ref a_13, .ref a_15, .ref a_17, .null, .null, .null, .int 0, .int 0, .null, .int 0, .int 0, .null, .null, .null, .null, .null])), (a_1, .inr (14, [.int 0, .ref tE, .int 0])), (a_3, .inr (14, [.int 0, .ref tE, .int 0])), (a_5, .inl (cA_6, 7, .inl (fun _ => 0))), (a_7, .inl (cA_8, 7, .inl (fun _ => 0))), (a_9, .inl (cA_10, 7, .inl (fun _ => 0))), (a_11, .inl (cA_12, 7, .inl (fun _ => 0))), (a_13, .inl (cA_14, 7, .inl (fun _ => 0))), (a_15, .inl (cA_16, 7, .inl (fun _ => 0))), (a_17, .inl (cA_18, 7, .inl (fun _ => 0))), (a_19, .inl (cA_20, 7, .inl (fun _ => 0)))] H := hP
  have hD : va_D A [(h0, .inr (12, [.int 0, .ref a_1, .ref a_3, .ref a_5, .int (-1), .int (-1), .int 0, .ref a_7, .ref a_9, .ref a_11, .ref a_13, .ref a_15, .ref a_17, .null, .null, .null, .int 0, .int 0, .null, .int 0, .int 0, .null, .null, .null, .null, .null])), (a_1, .inr (14, [.int 0, .ref tE, .int 0])), (a_3, .inr (14, [.int 0, .ref tE, .int 0])), (a_5, .inl (cA_6, 7, .inl (fun _ => 0))), (a_7, .inl (cA_8, 7, .inl (fun _ => 0))), (a_9, .inl (cA_10, 7, .inl (fun _ => 0))), (a_11, .inl (cA_12, 7, .inl (fun _ => 0))), (a_13, .inl (cA_14, 7, .inl (fun _ => 0))), (a_15, .inl (cA_16, 7, .inl (fun _ => 0))), (a_17, .inl (cA_18, 7, .inl (fun _ => 0))), (a_19, .inl (cA_20, 7, .inl (fun _ => 0)))] := hD
  have hK : va_K (dC, dI) cls [(cA_6, .int), (cA_8, .int), (cA_10, .int), (cA_12, .int), (cA_14, .int), (cA_16, .int), (cA_18, .int), (cA_20, .char)] s := hK
  refine W.widen (k := 10) (n := 62) (Nat.le_of_ble_eq_true rfl) (Nat.le_of_ble_eq_true rfl) ?_
  refine va_putF (D := (dC, dI)) (ci := 12) (v := .ref a_19) (ty := (.array .char)) (C := RX12) (T := TX12) (N := 26) hx hb hq i_X12 tyX12 tyX12_ok nmX12 hown hK hP hD hS 0 rfl rfl 13 (by decide) (hq _ q_1317) (fun _ h9 => h9) rfl hin rfl (by decide +kernel) rfl rfl (Nat.le_of_ble_eq_true rfl) dX12_init_97 (fun H locs hP hD hS => ?_)
  have hP : va_P (dC, dI) cls [(h0, .inr (12, [.int 0, .ref a_1, .ref a_3, .ref a_5, .int (-1), .int (-1), .int 0, .ref a_7, .ref a_9, .ref a_11, .ref a_13, .ref a_15, .ref a_17, .ref a_19, .null, .null, .int 0, .int 0, .null, .int 0, .int 0, .null, .null, .null, .null, .null])), (a_1, .inr (14, [.int 0, .ref tE, .int 0])), (a_3, .inr (14, [.int 0, .ref tE, .int 0])), (a_5, .inl (cA_6, 7, .inl (fun _ => 0))), (a_7, .inl (cA_8, 7, .inl (fun _ => 0))), (a_9, .inl (cA_10, 7, .inl (fun _ => 0))), (a_11, .inl (cA_12, 7, .inl (fun _ => 0))), (a_13, .inl (cA_14, 7, .inl (fun _ => 0))), (a_15, .inl (cA_16, 7, .inl (fun _ => 0))), (a_17, .inl (cA_18, 7, .inl (fun _ => 0))), (a_19, .inl (cA_20, 7, .inl (fun _ => 0)))] H := hP
  have hD : va_D A [(h0, .inr (12, [.int 0, .ref a_1, .ref a_3, .ref a_5, .int (-1), .int (-1), .int 0, .ref a_7, .ref a_9, .ref a_11, .ref a_13, .ref a_15, .ref a_17, .ref a_19, .null, .null, .int 0, .int 0, .null, .int 0, .int 0, .null, .null, .null, .null, .null])), (a_1, .inr (14, [.int 0, .ref tE, .int 0])), (a_3, .inr (14, [.int 0, .ref tE, .int 0])), (a_5, .inl (cA_6, 7, .inl (fun _ => 0))), (a_7, .inl (cA_8, 7, .inl (fun _ => 0))), (a_9, .inl (cA_10, 7, .inl (fun _ => 0))), (a_11, .inl (cA_12, 7, .inl (fun _ => 0))), (a_13, .inl (cA_14, 7, .inl (fun _ => 0))), (a_15, .inl (cA_16, 7, .inl (fun _ => 0))), (a_17, .inl (cA_18, 7, .inl (fun _ => 0))), (a_19, .inl (cA_20, 7, .inl (fun _ => 0)))] := hD
  refine lv_aload_n hx hb dX12_init_100 rfl (lv_at hl 0 rfl) ?_
  refine lv_bipush (v := 7) hx hb dX12_init_101 (by decide) ?_
  refine va_newa (atype := .boolean) (a0 := (7, .inl (fun _ => 0))) hx hb (hq _ q_82) rfl hK hP hD hS hA (fun _ => rfl) (by decide) (by decide) (Nat.le_of_ble_eq_true rfl) (Nat.le_of_ble_eq_true rfl) (Nat.le_of_ble_eq_true rfl) dX12_init_103 (fun a_21 cA_22 H hK hP hD hS => ?_)
  have hP : va_P (dC, dI) cls [(h0, .inr (12, [.int 0, .ref a_1, .ref a_3, .ref a_5, .int (-1), .int (-1), .int 0, .ref a_7, .ref a_9, .ref a_11, .ref a_13, .ref a_15, .ref a_17, .ref a_19, .null, .null, .int 0, .int 0, .null, .int 0, .int 0, .null, .null, .null, .null, .null])), (a_1, .inr (14, [.int 0, .ref tE, .int 0])), (a_3, .inr (14, [.int 0, .ref tE, .int 0])), (a_5, .inl (cA_6, 7, .inl (fun _ => 0))), (a_7, .inl (cA_8, 7, .inl (fun _ => 0))), (a_9, .inl (cA_10, 7, .inl (fun _ => 0))), (a_11, .inl (cA_12, 7, .inl (fun _ => 0))), (a_13, .inl (cA_14, 7, .inl (fun _ => 0))), (a_15, .inl (cA_16, 7, .inl (fun _ => 0))), (a_17, .inl (cA_18, 7, .inl (fun _ => 0))), (a_19, .inl (cA_20, 7, .inl (fun _ => 0))), (a_21, .inl (cA_22, 7, .inl (fun _ => 0)))] H := hP
  have hD : va_D A [(h0, .inr (12, [.int 0, .ref a_1, .ref a_3, .ref a_5, .int (-1), .int (-1), .int 0, .ref a_7, .ref a_9, .ref a_11, .ref a_13, .ref a_15, .ref a_17, .ref a_19, .null, .null, .int 0, .int 0, .null, .int 0, .int 0, .null, .null, .null, .null, .null])), (a_1, .inr (14, [.int 0, .ref tE, .int 0])), (a_3, .inr (14, [.int 0, .ref tE, .int 0])), (a_5, .inl (cA_6, 7, .inl (fun _ => 0))), (a_7, .inl (cA_8, 7, .inl (fun _ => 0))), (a_9, .inl (cA_10, 7, .inl (fun _ => 0))), (a_11, .inl (cA_12, 7, .inl (fun _ => 0))), (a_13, .inl (cA_14, 7, .inl (fun _ => 0))), (a_15, .inl (cA_16, 7, .inl (fun _ => 0))), (a_17, .inl (cA_18, 7, .inl (fun _ => 0))), (a_19, .inl (cA_20, 7, .inl (fun _ => 0))), (a_21, .inl (cA_22, 7, .inl (fun _ => 0)))] := hD
  have hK : va_K (dC, dI) cls [(cA_6, .int), (cA_8, .int), (cA_10, .int), (cA_12, .int), (cA_14, .int), (cA_16, .int), (cA_18, .int), (cA_20, .char), (cA_22, .boolean)] s := hK
  refine W.widen (k := 11) (n := 69) (Nat.le_of_ble_eq_true rfl) (Nat.le_of_ble_eq_true rfl) ?_
  refine va_putF (D := (dC, dI)) (ci := 12) (v := .ref a_21) (ty := (.array .boolean)) (C := RX12) (T := TX12) (N := 26) hx hb hq i_X12 tyX12 tyX12_ok nmX12 hown hK hP hD hS 0 rfl rfl 14 (by decide) (hq _ q_1318) (fun _ h9 => h9) rfl hin rfl (by decide +kernel) rfl rfl (Nat.le_of_ble_eq_true rfl) dX12_init_105 (fun H locs hP hD hS => ?_)
  have hP : va_P (dC, dI) cls [(h0, .inr (12, [.int 0, .ref a_1, .ref a_3, .ref a_5, .int (-1), .int (-1), .int 0, .ref a_7, .ref a_9, .ref a_11, .ref a_13, .ref a_15, .ref a_17, .ref a_19, .ref a_21, .null, .int 0, .int 0, .null, .int 0, .int 0, .null, .null, .null, .null, .null])), (a_1, .inr (14, [.int 0, .ref tE, .int 0])), (a_3, .inr (14, [.int 0, .ref tE, .int 0])), (a_5, .inl (cA_6, 7, .inl (fun _ => 0))), (a_7, .inl (cA_8, 7, .inl (fun _ => 0))), (a_9, .inl (cA_10, 7, .inl (fun _ => 0))), (a_11, .inl (cA_12, 7, .inl (fun _ => 0))), (a_13, .inl (cA_14, 7, .inl (fun _ => 0))), (a_15, .inl (cA_16, 7, .inl (fun _ => 0))), (a_17, .inl (cA_18, 7, .inl (fun _ => 0))), (a_19, .inl (cA_20, 7, .inl (fun _ => 0))), (a_21, .inl (cA_22, 7, .inl (fun _ => 0)))] H := hP
  have hD : va_D A [(h0, .inr (12, [.int 0, .ref a_1, .ref a_3, .ref a_5, .int (-1), .int (-1), .int 0, .ref a_7, .ref a_9, .ref a_11, .ref a_13, .ref a_15, .ref a_17, .ref a_19, .ref a_21, .null, .int 0, .int 0, .null, .int 0, .int 0, .null, .null, .null, .null, .null])), (a_1, .inr (14, [.int 0, .ref tE, .int 0])), (a_3, .inr (14, [.int 0, .ref tE, .int 0])), (a_5, .inl (cA_6, 7, .inl (fun _ => 0))), (a_7, .inl (cA_8, 7, .inl (fun _ => 0))), (a_9, .inl (cA_10, 7, .inl (fun _ => 0))), (a_11, .inl (cA_12, 7, .inl (fun _ => 0))), (a_13, .inl (cA_14, 7, .inl (fun _ => 0))), (a_15, .inl (cA_16, 7, .inl (fun _ => 0))), (a_17, .inl (cA_18, 7, .inl (fun _ => 0))), (a_19, .inl (cA_20, 7, .inl (fun _ => 0))), (a_21, .inl (cA_22, 7, .inl (fun _ => 0)))] := hD
  refine lv_aload_n hx hb dX12_init_108 rfl (lv_at hl 0 rfl) ?_
  refine lv_bipush (v := 7) hx hb dX12_init_109 (by decide) ?_
  refine va_newa (atype := .boolean) (a0 := (7, .inl (fun _ => 0))) hx hb (hq _ q_82) rfl hK hP hD hS hA (fun _ => rfl) (by decide) (by decide) (Nat.le_of_ble_eq_true rfl) (Nat.le_of_ble_eq_true rfl) (Nat.le_of_ble_eq_true rfl) dX12_init_111 (fun a_23 cA_24 H hK hP hD hS => ?_)
  have hP : va_P (dC, dI) cls [(h0, .inr (12, [.int 0, .ref a_1, .ref a_3, .ref a_5, .int (-1), .int (-1), .int 0, .ref a_7, .ref a_9, .ref a_11, .ref a_13, .ref a_15, .ref a_17, .ref a_19, .ref a_21, .null, .int 0, .int 0, .null, .int 0, .int 0, .null, .null, .null, .null, .null])), (a_1, .inr (14, [.int 0, .ref tE, .int 0])), (a_3, .inr (14, [.int 0, .ref tE, .int 0])), (a_5, .inl (cA_6, 7, .inl (fun _ => 0))), (a_7, .inl (cA_8, 7, .inl (fun _ => 0))), (a_9, .inl (cA_10, 7, .inl (fun _ => 0))), (a_11, .inl (cA_12, 7, .inl (fun _ => 0))), (a_13, .inl (cA_14, 7, .inl (fun _ => 0))), (a_15, .inl (cA_16, 7, .inl (fun _ => 0))), (a_17, .inl (cA_18, 7, .inl (fun _ => 0))), (a_19, .inl (cA_20, 7, .inl (fun _ => 0))), (a_21, .inl (cA_22, 7, .inl (fun _ => 0))), (a_23, .inl (cA_24, 7, .inl (fun _ => 0)))] H := hP
  have hD : va_D A [(h0, .inr (12, [.int 0, .ref a_1, .ref a_3, .ref a_5, .int (-1), .int (-1), .int 0, .ref a_7, .ref a_9, .ref a_11, .ref a_13, .ref a_15, .ref a_17, .ref a_19, .ref a_21, .null, .int 0, .int 0, .null, .int 0, .int 0, .null, .null, .null, .null, .null])), (a_1, .inr (14, [.int 0, .ref tE, .int 0])), (a_3, .inr (14, [.int 0, .ref tE, .int 0])), (a_5, .inl (cA_6, 7, .inl (fun _ => 0))), (a_7, .inl (cA_8, 7, .inl (fun _ => 0))), (a_9, .inl (cA_10, 7, .inl (fun _ => 0))), (a_11, .inl (cA_12, 7, .inl (fun _ => 0))), (a_13, .inl (cA_14, 7, .inl (fun _ => 0))), (a_15, .inl (cA_16, 7, .inl (fun _ => 0))), (a_17, .inl (cA_18, 7, .inl (fun _ => 0))), (a_19, .inl (cA_20, 7, .inl (fun _ => 0))), (a_21, .inl (cA_22, 7, .inl (fun _ => 0))), (a_23, .inl (cA_24, 7, .inl (fun _ => 0)))] := hD
  have hK : va_K (dC, dI) cls [(cA_6, .int), (cA_8, .int), (cA_10, .int), (cA_12, .int), (cA_14, .int), (cA_16, .int), (cA_18, .int), (cA_20, .char), (cA_22, .boolean), (cA_24, .boolean)] s := hK
  refine W.widen (k := 12) (n := 76) (Nat.le_of_ble_eq_true rfl) (Nat.le_of_ble_eq_true rfl) ?_
  refine va_putF (D := (dC, dI)) (ci := 12) (v := .ref a_23) (ty := (.array .boolean)) (C := RX12) (T := TX12) (N := 26) hx hb hq i_X12 tyX12 tyX12_ok nmX12 hown hK hP hD hS 0 rfl rfl 15 (by decide) (hq _ q_1319) (fun _ h9 => h9) rfl hin rfl (by decide +kernel) rfl rfl (Nat.le_of_ble_eq_true rfl) dX12_init_113 (fun H locs hP hD hS => ?_)
  have hP : va_P (dC, dI) cls [(h0, .inr (12, [.int 0, .ref a_1, .ref a_3, .ref a_5, .int (-1), .int (-1), .int 0, .ref a_7, .ref a_9, .ref a_11, .ref a_13, .ref a_15, .ref a_17, .ref a_19, .ref a_21, .ref a_23, .int 0, .int 0, .null, .int 0, .int 0, .null, .null, .null, .null, .null])), (a_1, .inr (14, [.int 0, .ref tE, .int 0])), (a_3, .inr (14, [.int 0, .ref tE, .int 0])), (a_5, .inl (cA_6, 7, .inl (fun _ => 0))), (a_7, .inl (cA_8, 7, .inl (fun _ => 0))), (a_9, .inl (cA_10, 7, .inl (fun _ => 0))), (a_11, .inl (cA_12, 7, .inl (fun _ => 0))), (a_13, .inl (cA_14, 7, .inl (fun _ => 0))), (a_15, .inl (cA_16, 7, .inl (fun _ => 0))), (a_17, .inl (cA_18, 7, .inl (fun _ => 0))), (a_19, .inl (cA_20, 7, .inl (fun _ => 0))), (a_21, .inl (cA_22, 7, .inl (fun _ => 0))), (a_23, .inl (cA_24, 7, .inl (fun _ => 0)))] H := hP
  have hD : va_D A [(h0, .inr (12, [.int 0, .ref a_1, .ref a_3, .ref a_5, .int (-1), .int (-1), .int 0, .ref a_7, .ref a_9, .ref a_11, .ref a_13, .ref a_15, .ref a_17, .ref a_19, .ref a_21, .ref a_23, .int 0, .int 0, .null, .int 0, .int 0, .null, .null, .null, .null, .null])), (a_1, .inr (14, [.int 0, .ref tE, .int 0])), (a_3, .inr (14, [.int 0, .ref tE, .int 0])), (a_5, .inl (cA_6, 7, .inl (fun _ => 0))), (a_7, .inl (cA_8, 7, .inl (fun _ => 0))), (a_9, .inl (cA_10, 7, .inl (fun _ => 0))), (a_11, .inl (cA_12, 7, .inl (fun _ => 0))), (a_13, .inl (cA_14, 7, .inl (fun _ => 0))), (a_15, .inl (cA_16, 7, .inl (fun _ => 0))), (a_17, .inl (cA_18, 7, .inl (fun _ => 0))), (a_19, .inl (cA_20, 7, .inl (fun _ => 0))), (a_21, .inl (cA_22, 7, .inl (fun _ => 0))), (a_23, .inl (cA_24, 7, .inl (fun _ => 0)))] := hD
  refine lv_aload_n hx hb dX12_init_116 rfl (lv_at hl 0 rfl) ?_
  refine lv_bipush (v := 45) hx hb dX12_init_117 (by decide) ?_
  refine va_put (D := (dC, dI)) (ci := 12) (v := .int 45) (ty := .char) (C := RX12) (T := TX12) (N := 26) hx hb hq i_X12 tyX12 tyX12_ok nmX12 hown hK hP hD hS 0 rfl rfl 20 (by decide) (hq _ q_1324) (fun _ h9 => h9) rfl (by decide +kernel) (by decide) (by decide +kernel) (Nat.le_of_ble_eq_true rfl) dX12_init_119 (fun H locs hP hD hS => ?_)
  have hP : va_P (dC, dI) cls [(h0, .inr (12, [.int 0, .ref a_1, .ref a_3, .ref a_5, .int (-1), .int (-1), .int 0, .ref a_7, .ref a_9, .ref a_11, .ref a_13, .ref a_15, .ref a_17, .ref a_19, .ref a_21, .ref a_23, .int 0, .int 0, .null, .int 0, .int 45, .null, .null, .null, .null, .null])), (a_1, .inr (14, [.int 0, .ref tE, .int 0])), (a_3, .inr (14, [.int 0, .ref tE, .int 0])), (a_5, .inl (cA_6, 7, .inl (fun _ => 0))), (a_7, .inl (cA_8, 7, .inl (fun _ => 0))), (a_9, .inl (cA_10, 7, .inl (fun _ => 0))), (a_11, .inl (cA_12, 7, .inl (fun _ => 0))), (a_13, .inl (cA_14, 7, .inl (fun _ => 0))), (a_15, .inl (cA_16, 7, .inl (fun _ => 0))), (a_17, .inl (cA_18, 7, .inl (fun _ => 0))), (a_19, .inl (cA_20, 7, .inl (fun _ => 0))), (a_21, .inl (cA_22, 7, .inl (fun _ => 0))), (a_23, .inl (cA_24, 7, .inl (fun _ => 0)))] H := hP
  have hD : va_D A [(h0, .inr (12, [.int 0, .ref a_1, .ref a_3, .ref a_5, .int (-1), .int (-1), .int 0, .ref a_7, .ref a_9, .ref a_11, .ref a_13, .ref a_15, .ref a_17, .ref a_19, .ref a_21, .ref a_23, .int 0, .int 0, .null, .int 0, .int 45, .null, .null, .null, .null, .null])), (a_1, .inr (14, [.int 0, .ref tE, .int 0])), (a_3, .inr (14, [.int 0, .ref tE, .int 0])), (a_5, .inl (cA_6, 7, .inl (fun _ => 0))), (a_7, .inl (cA_8, 7, .inl (fun _ => 0))), (a_9, .inl (cA_10, 7, .inl (fun _ => 0))), (a_11, .inl (cA_12, 7, .inl (fun _ => 0))), (a_13, .inl (cA_14, 7, .inl (fun _ => 0))), (a_15, .inl (cA_16, 7, .inl (fun _ => 0))), (a_17, .inl (cA_18, 7, .inl (fun _ => 0))), (a_19, .inl (cA_20, 7, .inl (fun _ => 0))), (a_21, .inl (cA_22, 7, .inl (fun _ => 0))), (a_23, .inl (cA_24, 7, .inl (fun _ => 0)))] := hD
  refine lv_aload_n hx hb dX12_init_122 rfl (lv_at hl 0 rfl) ?_
  refine va_new (ci := 14) (fs := [.int 0, .null, .int 0]) (C := RJx4a65c) (T := TJx4a65c) (N := 3) hx hb hq i_Jx4a65c tyJx4a65c tyJx4a65c_ok hown (hq _ q_1271) (hq _ q_1272) (hq _ q_15) hK hP hD hS hA rfl (fun j hj => by rcases (show j = 0 ∨ j = 1 ∨ j = 2 by omega) with rfl | rfl | rfl <;> rfl) (Nat.le_of_ble_eq_true rfl) (Nat.le_of_ble_eq_true rfl) dX12_init_123 (fun a_25 H hP hD hS => ?_)
  have hP : va_P (dC, dI) cls [(h0, .inr (12, [.int 0, .ref a_1, .ref a_3, .ref a_5, .int (-1), .int (-1), .int 0, .ref a_7, .ref a_9, .ref a_11, .ref a_13, .ref a_15, .ref a_17, .ref a_19, .ref a_21, .ref a_23, .int 0, .int 0, .null, .int 0, .int 45, .null, .null, .null, .null, .null])), (a_1, .inr (14, [.int 0, .ref tE, .int 0])), (a_3, .inr (14, [.int 0, .ref tE, .int 0])), (a_5, .inl (cA_6, 7, .inl (fun _ => 0))), (a_7, .inl (cA_8, 7, .inl (fun _ => 0))), (a_9, .inl (cA_10, 7, .inl (fun _ => 0))), (a_11, .inl (cA_12, 7, .inl (fun _ => 0))), (a_13, .inl (cA_14, 7, .inl (fun _ => 0))), (a_15, .inl (cA_16, 7, .inl (fun _ => 0))), (a_17, .inl (cA_18, 7, .inl (fun _ => 0))), (a_19, .inl (cA_20, 7, .inl (fun _ => 0))), (a_21, .inl (cA_22, 7, .inl (fun _ => 0))), (a_23, .inl (cA_24, 7, .inl (fun _ => 0))), (a_25, .inr (14, [.int 0, .null, .int 0]))] H := hP
  have hD : va_D A [(h0, .inr (12, [.int 0, .ref a_1, .ref a_3, .ref a_5, .int (-1), .int (-1), .int 0, .ref a_7, .ref a_9, .ref a_11, .ref a_13, .ref a_15, .ref a_17, .ref a_19, .ref a_21, .ref a_23, .int 0, .int 0, .null, .int 0, .int 45, .null, .null, .null, .null, .null])), (a_1, .inr (14, [.int 0, .ref tE, .int 0])), (a_3, .inr (14, [.int 0, .ref tE, .int 0])), (a_5, .inl (cA_6, 7, .inl (fun _ => 0))), (a_7, .inl (cA_8, 7, .inl (fun _ => 0))), (a_9, .inl (cA_10, 7, .inl (fun _ => 0))), (a_11, .inl (cA_12, 7, .inl (fun _ => 0))), (a_13, .inl (cA_14, 7, .inl (fun _ => 0))), (a_15, .inl (cA_16, 7, .inl (fun _ => 0))), (a_17, .inl (cA_18, 7, .inl (fun _ => 0))), (a_19, .inl (cA_20, 7, .inl (fun _ => 0))), (a_21, .inl (cA_22, 7, .inl (fun _ => 0))), (a_23, .inl (cA_24, 7, .inl (fun _ => 0))), (a_25, .inr (14, [.int 0, .null, .int 0]))] := hD
  refine W.widen (k := 13) (n := 79) (Nat.le_of_ble_eq_true rfl) (Nat.le_of_ble_eq_true rfl) ?_
  refine lv_dup hx hb dX12_init_126 rfl ?_
  have hPc := hP.sub (ws' := [(a_25, .inr (14, [.int 0, .null, .int 0]))]) [13] rfl
  have hKc := hK.sub (tys' := []) [] rfl
  have hDc := hD.sub (ws' := [(a_25, .inr (14, [.int 0, .null, .int 0]))]) [13] (by decide) rfl
  have hFc := va_free (wc := [(a_25, .inr (14, [.int 0, .null, .int 0]))]) hD hS hA [13] rfl
  refine va_callv (va_runI (As := []) (rest := [.ref a_25, .ref h0]) ⟨hx, hb, hml, hown, hq⟩ (c_AL_init l hst tE adK adV dC dI a_25 H.size) (tcI 0 hq q_1275 q_15 q_1273 q_1274 rfl rfl rfl (by decide +kernel) ⟨Nat.le_of_ble_eq_true rfl, Nat.le_of_ble_eq_true rfl⟩) (pre.S (pre.of hPc hDc hKc ham hS hFc)) rfl rfl hl.1 rfl (lv_room (Nat.le_of_ble_eq_true rfl)) dX12_init_127 ⟨Nat.le_of_ble_eq_true rfl, Nat.le_of_ble_eq_true rfl⟩) hS (fun q _ h => hFc q h) hFc (fun u t H1 locs ht hvm hw hB hz1 hk1 hS => ?_)
  obtain ⟨hP1, hK1, hD1⟩ := hB
  rw [ht] at hP1
  have hK1 := va_K.moved hvm.symm hK1
  obtain ⟨hP, hD⟩ := va_join (wr := [(h0, .inr (12, [.int 0, .ref a_1, .ref a_3, .ref a_5, .int (-1), .int (-1), .int 0, .ref a_7, .ref a_9, .ref a_11, .ref a_13, .ref a_15, .ref a_17, .ref a_19, .ref a_21, .ref a_23, .int 0, .int 0, .null, .int 0, .int 45, .null, .null, .null, .null, .null])), (a_1, .inr (14, [.int 0, .ref tE, .int 0])), (a_3, .inr (14, [.int 0, .ref tE, .int 0])), (a_5, .inl (cA_6, 7, .inl (fun _ => 0))), (a_7, .inl (cA_8, 7, .inl (fun _ => 0))), (a_9, .inl (cA_10, 7, .inl (fun _ => 0))), (a_11, .inl (cA_12, 7, .inl (fun _ => 0))), (a_13, .inl (cA_14, 7, .inl (fun _ => 0))), (a_15, .inl (cA_16, 7, .inl (fun _ => 0))), (a_17, .inl (cA_18, 7, .inl (fun _ => 0))), (a_19, .inl (cA_20, 7, .inl (fun _ => 0))), (a_21, .inl (cA_22, 7, .inl (fun _ => 0))), (a_23, .inl (cA_24, 7, .inl (fun _ => 0)))]) (w1 := [(a_25, .inr (14, [.int 0, .ref tE, .int 0]))]) (wc := [(a_25, .inr (14, [.int 0, .null, .int 0]))]) hP hD [13] [0, 1, 2, 3, 4, 5, 6, 7, 8, 9, 10, 11, 12] rfl rfl (by decide) (by decide) hk1 hFc hP1 hD1
  have hK := (hK.sub (tys' := [(cA_6, .int), (cA_8, .int), (cA_10, .int), (cA_12, .int), (cA_14, .int), (cA_16, .int), (cA_18, .int), (cA_20, .char), (cA_22, .boolean), (cA_24, .boolean)]) [0, 1, 2, 3, 4, 5, 6, 7, 8, 9] rfl).app hK1
  generalize H1 = H at hP hS ⊢
  have hP : va_P (dC, dI) cls [(h0, .inr (12, [.int 0, .ref a_1, .ref a_3, .ref a_5, .int (-1), .int (-1), .int 0, .ref a_7, .ref a_9, .ref a_11, .ref a_13, .ref a_15, .ref a_17, .ref a_19, .ref a_21, .ref a_23, .int 0, .int 0, .null, .int 0, .int 45, .null, .null, .null, .null, .null])), (a_1, .inr (14, [.int 0, .ref tE, .int 0])), (a_3, .inr (14, [.int 0, .ref tE, .int 0])), (a_5, .inl (cA_6, 7, .inl (fun _ => 0))), (a_7, .inl (cA_8, 7, .inl (fun _ => 0))), (a_9, .inl (cA_10, 7, .inl (fun _ => 0))), (a_11, .inl (cA_12, 7, .inl (fun _ => 0))), (a_13, .inl (cA_14, 7, .inl (fun _ => 0))), (a_15, .inl (cA_16, 7, .inl (fun _ => 0))), (a_17, .inl (cA_18, 7, .inl (fun _ => 0))), (a_19, .inl (cA_20, 7, .inl (fun _ => 0))), (a_21, .inl (cA_22, 7, .inl (fun _ => 0))), (a_23, .inl (cA_24, 7, .inl (fun _ => 0))), (a_25, .inr (14, [.int 0, .ref tE, .int 0]))] H := hP
  have hD : va_D A [(h0, .inr (12, [.int 0, .ref a_1, .ref a_3, .ref a_5, .int (-1), .int (-1), .int 0, .ref a_7, .ref a_9, .ref a_11, .ref a_13, .ref a_15, .ref a_17, .ref a_19, .ref a_21, .ref a_23, .int 0, .int 0, .null, .int 0, .int 45, .null, .null, .null, .null, .null])), (a_1, .inr (14, [.int 0, .ref tE, .int 0])), (a_3, .inr (14, [.int 0, .ref tE, .int 0])), (a_5, .inl (cA_6, 7, .inl (fun _ => 0))), (a_7, .inl (cA_8, 7, .inl (fun _ => 0))), (a_9, .inl (cA_10, 7, .inl (fun _ => 0))), (a_11, .inl (cA_12, 7, .inl (fun _ => 0))), (a_13, .inl (cA_14, 7, .inl (fun _ => 0))), (a_15, .inl (cA_16, 7, .inl (fun _ => 0))), (a_17, .inl (cA_18, 7, .inl (fun _ => 0))), (a_19, .inl (cA_20, 7, .inl (fun _ => 0))), (a_21, .inl (cA_22, 7, .inl (fun _ => 0))), (a_23, .inl (cA_24, 7, .inl (fun _ => 0))), (a_25, .inr (14, [.int 0, .ref tE, .int 0]))] := hD
  have hK : va_K (dC, dI) cls [(cA_6, .int), (cA_8, .int), (cA_10, .int), (cA_12, .int), (cA_14, .int), (cA_16, .int), (cA_18, .int), (cA_20, .char), (cA_22, .boolean), (cA_24, .boolean)] s := hK
  refine W.widen (k := 13) (n := 79) (Nat.le_of_ble_eq_true rfl) (Nat.le_of_ble_eq_true rfl) ?_
  refine va_putF (D := (dC, dI)) (ci := 12) (v := .ref a_25) (ty := (.object "java/util/List")) (C := RX12) (T := TX12) (N := 26) hx hb hq i_X12 tyX12 tyX12_ok nmX12 hown hK hP hD hS 0 rfl rfl 21 (by decide) (hq _ q_1325) (fun _ h9 => h9) rfl hin rfl (by decide +kernel) rfl rfl (Nat.le_of_ble_eq_true rfl) dX12_init_130 (fun H locs hP hD hS => ?_)
  have hP : va_P (dC, dI) cls [(h0, .inr (12, [.int 0, .ref a_1, .ref a_3, .ref a_5, .int (-1), .int (-1), .int 0, .ref a_7, .ref a_9, .ref a_11, .ref a_13, .ref a_15, .ref a_17, .ref a_19, .ref a_21, .ref a_23, .int 0, .int 0, .null, .int 0, .int 45, .ref a_25, .null, .null, .null, .null])), (a_1, .inr (14, [.int 0, .ref tE, .int 0])), (a_3, .inr (14, [.int 0, .ref tE, .int 0])), (a_5, .inl (cA_6, 7, .inl (fun _ => 0))), (a_7, .inl (cA_8, 7, .inl (fun _ => 0))), (a_9, .inl (cA_10, 7, .inl (fun _ => 0))), (a_11, .inl (cA_12, 7, .inl (fun _ => 0))), (a_13, .inl (cA_14, 7, .inl (fun _ => 0))), (a_15, .inl (cA_16, 7, .inl (fun _ => 0))), (a_17, .inl (cA_18, 7, .inl (fun _ => 0))), (a_19, .inl (cA_20, 7, .inl (fun _ => 0))), (a_21, .inl (cA_22, 7, .inl (fun _ => 0))), (a_23, .inl (cA_24, 7, .inl (fun _ => 0))), (a_25, .inr (14, [.int 0, .ref tE, .int 0]))] H := hP
  have hD : va_D A [(h0, .inr (12, [.int 0, .ref a_1, .ref a_3, .ref a_5, .int (-1), .int (-1), .int 0, .ref a_7, .ref a_9, .ref a_11, .ref a_13, .ref a_15, .ref a_17, .ref a_19, .ref a_21, .ref a_23, .int 0, .int 0, .null, .int 0, .int 45, .ref a_25, .null, .null, .null, .null])), (a_1, .inr (14, [.int 0, .ref tE, .int 0])), (a_3, .inr (14, [.int 0, .ref tE, .int 0])), (a_5, .inl (cA_6, 7, .inl (fun _ => 0))), (a_7, .inl (cA_8, 7, .inl (fun _ => 0))), (a_9, .inl (cA_10, 7, .inl (fun _ => 0))), (a_11, .inl (cA_12, 7, .inl (fun _ => 0))), (a_13, .inl (cA_14, 7, .inl (fun _ => 0))), (a_15, .inl (cA_16, 7, .inl (fun _ => 0))), (a_17, .inl (cA_18, 7, .inl (fun _ => 0))), (a_19, .inl (cA_20, 7, .inl (fun _ => 0))), (a_21, .inl (cA_22, 7, .inl (fun _ => 0))), (a_23, .inl (cA_24, 7, .inl (fun _ => 0))), (a_25, .inr (14, [.int 0, .ref tE, .int 0]))] := hD
  refine lv_aload_n hx hb dX12_init_133 rfl (lv_at hl 0 rfl) ?_
  refine va_new (ci := 14) (fs := [.int 0, .null, .int 0]) (C := RJx4a65c) (T := TJx4a65c) (N := 3) hx hb hq i_Jx4a65c tyJx4a65c tyJx4a65c_ok hown (hq _ q_1271) (hq _ q_1272) (hq _ q_15) hK hP hD hS hA rfl (fun j hj => by rcases (show j = 0 ∨ j = 1 ∨ j = 2 by omega) with rfl | rfl | rfl <;> rfl) (Nat.le_of_ble_eq_true rfl) (Nat.le_of_ble_eq_true rfl) dX12_init_134 (fun a_27 H hP hD hS => ?_)
  have hP : va_P (dC, dI) cls [(h0, .inr (12, [.int 0, .ref a_1, .ref a_3, .ref a_5, .int (-1), .int (-1), .int 0, .ref a_7, .ref a_9, .ref a_11, .ref a_13, .ref a_15, .ref a_17, .ref a_19, .ref a_21, .ref a_23, .int 0, .int 0, .null, .int 0, .int 45, .ref a_25, .null, .null, .null, .null])), (a_1, .inr (14, [.int 0, .ref tE, .int 0])), (a_3, .inr (14, [.int 0, .ref tE, .int 0])), (a_5, .inl (cA_6, 7, .inl (fun _ => 0))), (a_7, .inl (cA_8, 7, .inl (fun _ => 0))), (a_9, .inl (cA_10, 7, .inl (fun _ => 0))), (a_11, .inl (cA_12, 7, .inl (fun _ => 0))), (a_13, .inl (cA_14, 7, .inl (fun _ => 0))), (a_15, .inl (cA_16, 7, .inl (fun _ => 0))), (a_17, .inl (cA_18, 7, .inl (fun _ => 0))), (a_19, .inl (cA_20, 7, .inl (fun _ => 0))), (a_21, .inl (cA_22, 7, .inl (fun _ => 0))), (a_23, .inl (cA_24, 7, .inl (fun _ => 0))), (a_25, .inr (14, [.int 0, .ref tE, .int 0])), (a_27, .inr (14, [.int 0, .null, .int 0]))] H := hP
  have hD : va_D A [(h0, .inr (12, [.int 0, .ref a_1, .ref a_3, .ref a_5, .int (-1), .int (-1), .int 0, .ref a_7, .ref a_9, .ref a_11, .ref a_13, .ref a_15, .ref a_17, .ref a_19, .ref a_21, .ref a_23, .int 0, .int 0, .null, .int 0, .int 45, .ref a_25, .null, .null, .null, .null])), (a_1, .inr (14, [.int 0, .ref tE, .int 0])), (a_3, .inr (14, [.int 0, .ref tE, .int 0])), (a_5, .inl (cA_6, 7, .inl (fun _ => 0))), (a_7, .inl (cA_8, 7, .inl (fun _ => 0))), (a_9, .inl (cA_10, 7, .inl (fun _ => 0))), (a_11, .inl (cA_12, 7, .inl (fun _ => 0))), (a_13, .inl (cA_14, 7, .inl (fun _ => 0))), (a_15, .inl (cA_16, 7, .inl (fun _ => 0))), (a_17, .inl (cA_18, 7, .inl (fun _ => 0))), (a_19, .inl (cA_20, 7, .inl (fun _ => 0))), (a_21, .inl (cA_22, 7, .inl (fun _ => 0))), (a_23, .inl (cA_24, 7, .inl (fun _ => 0))), (a_25, .inr (14, [.int 0, .ref tE, .int 0])), (a_27, .inr (14, [.int 0, .null, .int 0]))] := hD
  refine W.widen (k := 14) (n := 82) (Nat.le_of_ble_eq_true rfl) (Nat.le_of_ble_eq_true rfl) ?_
  refine lv_dup hx hb dX12_init_137 rfl ?_
  have hPc := hP.sub (ws' := [(a_27, .inr (14, [.int 0, .null, .int 0]))]) [14] rfl
  have hKc := hK.sub (tys' := []) [] rfl
  have hDc := hD.sub (ws' := [(a_27, .inr (14, [.int 0, .null, .int 0]))]) [14] (by decide) rfl
  have hFc := va_free (wc := [(a_27, .inr (14, [.int 0, .null, .int 0]))]) hD hS hA [14] rfl
  refine va_callv (va_runI (As := []) (rest := [.ref a_27, .ref h0]) ⟨hx, hb, hml, hown, hq⟩ (c_AL_init l hst tE adK adV dC dI a_27 H.size) (tcI 0 hq q_1275 q_15 q_1273 q_1274 rfl rfl rfl (by decide +kernel) ⟨Nat.le_of_ble_eq_true rfl, Nat.le_of_ble_eq_true rfl⟩) (pre.S (pre.of hPc hDc hKc ham hS hFc)) rfl rfl hl.1 rfl (lv_room (Nat.le_of_ble_eq_true rfl)) dX12_init_138 ⟨Nat.le_of_ble_eq_true rfl, Nat.le_of_ble_eq_true rfl⟩) hS (fun q _ h => hFc q h) hFc (fun u t H1 locs ht hvm hw hB hz1 hk1 hS => ?_)
  obtain ⟨hP1, hK1, hD1⟩ := hB
  rw [ht] at hP1
  have hK1 := va_K.moved hvm.symm hK1
  obtain ⟨hP, hD⟩ := va_join (wr := [(h0, .inr (12, [.int 0, .ref a_1, .ref a_3, .ref a_5, .int (-1), .int (-1), .int 0, .ref a_7, .ref a_9, .ref a_11, .ref a_13, .ref a_15, .ref a_17, .ref a_19, .ref a_21, .ref a_23, .int 0, .int 0, .null, .int 0, .int 45, .ref a_25, .null, .null, .null, .null])), (a_1, .inr (14, [.int 0, .ref tE, .int 0])), (a_3, .inr (14, [.int 0, .ref tE, .int 0])), (a_5, .inl (cA_6, 7, .inl (fun _ => 0))), (a_7, .inl (cA_8, 7, .inl (fun _ => 0))), (a_9, .inl (cA_10, 7, .inl (fun _ => 0))), (a_11, .inl (cA_12, 7, .inl (fun _ => 0))), (a_13, .inl (cA_14, 7, .inl (fun _ => 0))), (a_15, .inl (cA_16, 7, .inl (fun _ => 0))), (a_17, .inl (cA_18, 7, .inl (fun _ => 0))), (a_19, .inl (cA_20, 7, .inl (fun _ => 0))), (a_21, .inl (cA_22, 7, .inl (fun _ => 0))), (a_23, .inl (cA_24, 7, .inl (fun _ => 0))), (a_25, .inr (14, [.int 0, .ref tE, .int 0]))]) (w1 := [(a_27, .inr (14, [.int 0, .ref tE, .int 0]))]) (wc := [(a_27, .inr (14, [.int 0, .null, .int 0]))]) hP hD [14] [0, 1, 2, 3, 4, 5, 6, 7, 8, 9, 10, 11, 12, 13] rfl rfl (by decide) (by decide) hk1 hFc hP1 hD1
  have hK := (hK.sub (tys' := [(cA_6, .int), (cA_8, .int), (cA_10, .int), (cA_12, .int), (cA_14, .int), (cA_16, .int), (cA_18, .int), (cA_20, .char), (cA_22, .boolean), (cA_24, .boolean)]) [0, 1, 2, 3, 4, 5, 6, 7, 8, 9] rfl).app hK1
  generalize H1 = H at hP hS ⊢
  have hP : va_P (dC, dI) cls [(h0, .inr (12, [.int 0, .ref a_1, .ref a_3, .ref a_5, .int (-1), .int (-1), .int 0, .ref a_7, .ref a_9, .ref a_11, .ref a_13, .ref a_15, .ref a_17, .ref a_19, .ref a_21, .ref a_23, .int 0, .int 0, .null, .int 0, .int 45, .ref a_25, .null, .null, .null, .null])), (a_1, .inr (14, [.int 0, .ref tE, .int 0])), (a_3, .inr (14, [.int 0, .ref tE, .int 0])), (a_5, .inl (cA_6, 7, .inl (fun _ => 0))), (a_7, .inl (cA_8, 7, .inl (fun _ => 0))), (a_9, .inl (cA_10, 7, .inl (fun _ => 0))), (a_11, .inl (cA_12, 7, .inl (fun _ => 0))), (a_13, .inl (cA_14, 7, .inl (fun _ => 0))), (a_15, .inl (cA_16, 7, .inl (fun _ => 0))), (a_17, .inl (cA_18, 7, .inl (fun _ => 0))), (a_19, .inl (cA_20, 7, .inl (fun _ => 0))), (a_21, .inl (cA_22, 7, .inl (fun _ => 0))), (a_23, .inl (cA_24, 7, .inl (fun _ => 0))), (a_25, .inr (14, [.int 0, .ref tE, .int 0])), (a_27, .inr (14, [.int 0, .ref tE, .int 0]))] H := hP
  have hD : va_D A [(h0, .inr (12, [.int 0, .ref a_1, .ref a_3, .ref a_5, .int (-1), .int (-1), .int 0, .ref a_7, .ref a_9, .ref a_11, .ref a_13, .ref a_15, .ref a_17, .ref a_19, .ref a_21, .ref a_23, .int 0, .int 0, .null, .int 0, .int 45, .ref a_25, .null, .null, .null, .null])), (a_1, .inr (14, [.int 0, .ref tE, .int 0])), (a_3, .inr (14, [.int 0, .ref tE, .int 0])), (a_5, .inl (cA_6, 7, .inl (fun _ => 0))), (a_7, .inl (cA_8, 7, .inl (fun _ => 0))), (a_9, .inl (cA_10, 7, .inl (fun _ => 0))), (a_11, .inl (cA_12, 7, .inl (fun _ => 0))), (a_13, .inl (cA_14, 7, .inl (fun _ => 0))), (a_15, .inl (cA_16, 7, .inl (fun _ => 0))), (a_17, .inl (cA_18, 7, .inl (fun _ => 0))), (a_19, .inl (cA_20, 7, .inl (fun _ => 0))), (a_21, .inl (cA_22, 7, .inl (fun _ => 0))), (a_23, .inl (cA_24, 7, .inl (fun _ => 0))), (a_25, .inr (14, [.int 0, .ref tE, .int 0])), (a_27, .inr (14, [.int 0, .ref tE, .int 0]))] := hD
  have hK : va_K (dC, dI) cls [(cA_6, .int), (cA_8, .int), (cA_10, .int), (cA_12, .int), (cA_14, .int), (cA_16, .int), (cA_18, .int), (cA_20, .char), (cA_22, .boolean), (cA_24, .boolean)] s := hK
  refine W.widen (k := 14) (n := 82) (Nat.le_of_ble_eq_true rfl) (Nat.le_of_ble_eq_true rfl) ?_
  refine va_putF (D := (dC, dI)) (ci := 12) (v := .ref a_27) (ty := (.object "java/util/List")) (C := RX12) (T := TX12) (N := 26) hx hb hq i_X12 tyX12 tyX12_ok nmX12 hown hK hP hD hS 0 rfl rfl 22 (by decide) (hq _ q_1326) (fun _ h9 => h9) rfl hin rfl (by decide +kernel) rfl rfl (Nat.le_of_ble_eq_true rfl) dX12_init_141 (fun H locs hP hD hS => ?_)
  have hP : va_P (dC, dI) cls [(h0, .inr (12, [.int 0, .ref a_1, .ref a_3, .ref a_5, .int (-1), .int (-1), .int 0, .ref a_7, .ref a_9, .ref a_11, .ref a_13, .ref a_15, .ref a_17, .ref a_19, .ref a_21, .ref a_23, .int 0, .int 0, .null, .int 0, .int 45, .ref a_25, .ref a_27, .null, .null, .null])), (a_1, .inr (14, [.int 0, .ref tE, .int 0])), (a_3, .inr (14, [.int 0, .ref tE, .int 0])), (a_5, .inl (cA_6, 7, .inl (fun _ => 0))), (a_7, .inl (cA_8, 7, .inl (fun _ => 0))), (a_9, .inl (cA_10, 7, .inl (fun _ => 0))), (a_11, .inl (cA_12, 7, .inl (fun _ => 0))), (a_13, .inl (cA_14, 7, .inl (fun _ => 0))), (a_15, .inl (cA_16, 7, .inl (fun _ => 0))), (a_17, .inl (cA_18, 7, .inl (fun _ => 0))), (a_19, .inl (cA_20, 7, .inl (fun _ => 0))), (a_21, .inl (cA_22, 7, .inl (fun _ => 0))), (a_23, .inl (cA_24, 7, .inl (fun _ => 0))), (a_25, .inr (14, [.int 0, .ref tE, .int 0])), (a_27, .inr (14, [.int 0, .ref tE, .int 0]))] H := hP
  have hD : va_D A [(h0, .inr (12, [.int 0, .ref a_1, .ref a_3, .ref a_5, .int (-1), .int (-1), .int 0, .ref a_7, .ref a_9, .ref a_11, .ref a_13, .ref a_15, .ref a_17, .ref a_19, .ref a_21, .ref a_23, .int 0, .int 0, .null, .int 0, .int 45, .ref a_25, .ref a_27, .null, .null, .null])), (a_1, .inr (14, [.int 0, .ref tE, .int 0])), (a_3, .inr (14, [.int 0, .ref tE, .int 0])), (a_5, .inl (cA_6, 7, .inl (fun _ => 0))), (a_7, .inl (cA_8, 7, .inl (fun _ => 0))), (a_9, .inl (cA_10, 7, .inl (fun _ => 0))), (a_11, .inl (cA_12, 7, .inl (fun _ => 0))), (a_13, .inl (cA_14, 7, .inl (fun _ => 0))), (a_15, .inl (cA_16, 7, .inl (fun _ => 0))), (a_17, .inl (cA_18, 7, .inl (fun _ => 0))), (a_19, .inl (cA_20, 7, .inl (fun _ => 0))), (a_21, .inl (cA_22, 7, .inl (fun _ => 0))), (a_23, .inl (cA_24, 7, .inl (fun _ => 0))), (a_25, .inr (14, [.int 0, .ref tE, .int 0])), (a_27, .inr (14, [.int 0, .ref tE, .int 0]))] := hD
  refine lv_aload_n hx hb dX12_init_144 rfl (lv_at hl 0 rfl) ?_
  refine va_new (ci := 14) (fs := [.int 0, .null, .int 0]) (C := RJx4a65c) (T := TJx4a65c) (N := 3) hx hb hq i_Jx4a65c tyJx4a65c tyJx4a65c_ok hown (hq _ q_1271) (hq _ q_1272) (hq _ q_15) hK hP hD hS hA rfl (fun j hj => by rcases (show j = 0 ∨ j = 1 ∨ j = 2 by omega) with rfl | rfl | rfl <;> rfl) (Nat.le_of_ble_eq_true rfl) (Nat.le_of_ble_eq_true rfl) dX12_init_145 (fun a_29 H hP hD hS => ?_)
  have hP : va_P (dC, dI) cls [(h0, .inr (12, [.int 0, .ref a_1, .ref a_3, .ref a_5, .int (-1), .int (-1), .int 0, .ref a_7, .ref a_9, .ref a_11, .ref a_13, .ref a_15, .ref a_17, .ref a_19, .ref a_21, .ref a_23, .int 0, .int 0, .null, .int 0, .int 45, .ref a_25, .ref a_27, .null, .null, .null])), (a_1, .inr (14, [.int 0, .ref tE, .int 0])), (a_3, .inr (14, [.int 0, .ref tE, .int 0])), (a_5, .inl (cA_6, 7, .inl (fun _ => 0))), (a_7, .inl (cA_8, 7, .inl (fun _ => 0))), (a_9, .inl (cA_10, 7, .inl (fun _ => 0))), (a_11, .inl (cA_12, 7, .inl (fun _ => 0))), (a_13, .inl (cA_14, 7, .inl (fun _ => 0))), (a_15, .inl (cA_16, 7, .inl (fun _ => 0))), (a_17, .inl (cA_18, 7, .inl (fun _ => 0))), (a_19, .inl (cA_20, 7, .inl (fun _ => 0))), (a_21, .inl (cA_22, 7, .inl (fun _ => 0))), (a_23, .inl (cA_24, 7, .inl (fun _ => 0))), (a_25, .inr (14, [.int 0, .ref tE, .int 0])), (a_27, .inr (14, [.int 0, .ref tE, .int 0])), (a_29, .inr (14, [.int 0, .null, .int 0]))] H := hP
  have hD : va_D A [(h0, .inr (12, [.int 0, .ref a_1, .ref a_3, .ref a_5, .int (-1), .int (-1), .int 0, .ref a_7, .ref a_9, .ref a_11, .ref a_13, .ref a_15, .ref a_17, .ref a_19, .ref a_21, .ref a_23, .int 0, .int 0, .null, .int 0, .int 45, .ref a_25, .ref a_27, .null, .null, .null])), (a_1, .inr (14, [.int 0, .ref tE, .int 0])), (a_3, .inr (14, [.int 0, .ref tE, .int 0])), (a_5, .inl (cA_6, 7, .inl (fun _ => 0))), (a_7, .inl (cA_8, 7, .inl (fun _ => 0))), (a_9, .inl (cA_10, 7, .inl (fun _ => 0))), (a_11, .inl (cA_12, 7, .inl (fun _ => 0))), (a_13, .inl (cA_14, 7, .inl (fun _ => 0))), (a_15, .inl (cA_16, 7, .inl (fun _ => 0))), (a_17, .inl (cA_18, 7, .inl (fun _ => 0))), (a_19, .inl (cA_20, 7, .inl (fun _ => 0))), (a_21, .inl (cA_22, 7, .inl (fun _ => 0))), (a_23, .inl (cA_24, 7, .inl (fun _ => 0))), (a_25, .inr (14, [.int 0, .ref tE, .int 0])), (a_27, .inr (14, [.int 0, .ref tE, .int 0])), (a_29, .inr (14, [.int 0, .null, .int 0]))] := hD
  refine W.widen (k := 15) (n := 85) (Nat.le_of_ble_eq_true rfl) (Nat.le_of_ble_eq_true rfl) ?_
  refine lv_dup hx hb dX12_init_148 rfl ?_
  have hPc := hP.sub (ws' := [(a_29, .inr (14, [.int 0, .null, .int 0]))]) [15] rfl
  have hKc := hK.sub (tys' := []) [] rfl
  have hDc := hD.sub (ws' := [(a_29, .inr (14, [.int 0, .null, .int 0]))]) [15] (by decide) rfl
  have hFc := va_free (wc := [(a_29, .inr (14, [.int 0, .null, .int 0]))]) hD hS hA [15] rfl
  refine va_callv (va_runI (As := []) (rest := [.ref a_29, .ref h0]) ⟨hx, hb, hml, hown, hq⟩ (c_AL_init l hst tE adK adV dC dI a_29 H.size) (tcI 0 hq q_1275 q_15 q_1273 q_1274 rfl rfl rfl (by decide +kernel) ⟨Nat.le_of_ble_eq_true rfl, Nat.le_of_ble_eq_true rfl⟩) (pre.S (pre.of hPc hDc hKc ham hS hFc)) rfl rfl hl.1 rfl (lv_room (Nat.le_of_ble_eq_true rfl)) dX12_init_149 ⟨Nat.le_of_ble_eq_true rfl, Nat.le_of_ble_eq_true rfl⟩) hS (fun q _ h => hFc q h) hFc (fun u t H1 locs ht hvm hw hB hz1 hk1 hS => ?_)
  obtain ⟨hP1, hK1, hD1⟩ := hB
  rw [ht] at hP1
  have hK1 := va_K.moved hvm.symm hK1
  obtain ⟨hP, hD⟩ := va_join (wr := [(h0, .inr (12, [.int 0, .ref a_1, .ref a_3, .ref a_5, .int (-1), .int (-1), .int 0, .ref a_7, .ref a_9, .ref a_11, .ref a_13, .ref a_15, .ref a_17, .ref a_19, .ref a_21, .ref a_23, .int 0, .int 0, .null, .int 0, .int 45, .ref a_25, .ref a_27, .null, .null, .null])), (a_1, .inr (14, [.int 0, .ref tE, .int 0])), (a_3, .inr (14, [.int 0, .ref tE, .int 0])), (a_5, .inl (cA_6, 7, .inl (fun _ => 0))), (a_7, .inl (cA_8, 7, .inl (fun _ => 0))), (a_9, .inl (cA_10, 7, .inl (fun _ => 0))), (a_11, .inl (cA_12, 7, .inl (fun _ => 0))), (a_13, .inl (cA_14, 7, .inl (fun _ => 0))), (a_15, .inl (cA_16, 7, .inl (fun _ => 0))), (a_17, .inl (cA_18, 7, .inl (fun _ => 0))), (a_19, .inl (cA_20, 7, .inl (fun _ => 0))), (a_21, .inl (cA_22, 7, .inl (fun _ => 0))), (a_23, .inl (cA_24, 7, .inl (fun _ => 0))), (a_25, .inr (14, [.int 0, .ref tE, .int 0])), (a_27, .inr (14, [.int 0, .ref tE, .int 0]))]) (w1 := [(a_29, .inr (14, [.int 0, .ref tE, .int 0]))]) (wc := [(a_29, .inr (14, [.int 0, .null, .int 0]))]) hP hD [15] [0, 1, 2, 3, 4, 5, 6, 7, 8, 9, 10, 11, 12, 13, 14] rfl rfl (by decide) (by decide) hk1 hFc hP1 hD1
  have hK := (hK.sub (tys' := [(cA_6, .int), (cA_8, .int), (cA_10, .int), (cA_12, .int), (cA_14, .int), (cA_16, .int), (cA_18, .int), (cA_20, .char), (cA_22, .boolean), (cA_24, .boolean)]) [0, 1, 2, 3, 4, 5, 6, 7, 8, 9] rfl).app hK1
  generalize H1 = H at hP hS ⊢
  have hP : va_P (dC, dI) cls [(h0, .inr (12, [.int 0, .ref a_1, .ref a_3, .ref a_5, .int (-1), .int (-1), .int 0, .ref a_7, .ref a_9, .ref a_11, .ref a_13, .ref a_15, .ref a_17, .ref a_19, .ref a_21, .ref a_23, .int 0, .int 0, .null, .int 0, .int 45, .ref a_25, .ref a_27, .null, .null, .null])), (a_1, .inr (14, [.int 0, .ref tE, .int 0])), (a_3, .inr (14, [.int 0, .ref tE, .int 0])), (a_5, .inl (cA_6, 7, .inl (fun _ => 0))), (a_7, .inl (cA_8, 7, .inl (fun _ => 0))), (a_9, .inl (cA_10, 7, .inl (fun _ => 0))), (a_11, .inl (cA_12, 7, .inl (fun _ => 0))), (a_13, .inl (cA_14, 7, .inl (fun _ => 0))), (a_15, .inl (cA_16, 7, .inl (fun _ => 0))), (a_17, .inl (cA_18, 7, .inl (fun _ => 0))), (a_19, .inl (cA_20, 7, .inl (fun _ => 0))), (a_21, .inl (cA_22, 7, .inl (fun _ => 0))), (a_23, .inl (cA_24, 7, .inl (fun _ => 0))), (a_25, .inr (14, [.int 0, .ref tE, .int 0])), (a_27, .inr (14, [.int 0, .ref tE, .int 0])), (a_29, .inr (14, [.int 0, .ref tE, .int 0]))] H := hP
  have hD : va_D A [(h0, .inr (12, [.int 0, .ref a_1, .ref a_3, .ref a_5, .int (-1), .int (-1), .int 0, .ref a_7, .ref a_9, .ref a_11, .ref a_13, .ref a_15, .ref a_17, .ref a_19, .ref a_21, .ref a_23, .int 0, .int 0, .null, .int 0, .int 45, .ref a_25, .ref a_27, .null, .null, .null])), (a_1, .inr (14, [.int 0, .ref tE, .int 0])), (a_3, .inr (14, [.int 0, .ref tE, .int 0])), (a_5, .inl (cA_6, 7, .inl (fun _ => 0))), (a_7, .inl (cA_8, 7, .inl (fun _ => 0))), (a_9, .inl (cA_10, 7, .inl (fun _ => 0))), (a_11, .inl (cA_12, 7, .inl (fun _ => 0))), (a_13, .inl (cA_14, 7, .inl (fun _ => 0))), (a_15, .inl (cA_16, 7, .inl (fun _ => 0))), (a_17, .inl (cA_18, 7, .inl (fun _ => 0))), (a_19, .inl (cA_20, 7, .inl (fun _ => 0))), (a_21, .inl (cA_22, 7, .inl (fun _ => 0))), (a_23, .inl (cA_24, 7, .inl (fun _ => 0))), (a_25, .inr (14, [.int 0, .ref tE, .int 0])), (a_27, .inr (14, [.int 0, .ref tE, .int 0])), (a_29, .inr (14, [.int 0, .ref tE, .int 0]))] := hD
  have hK : va_K (dC, dI) cls [(cA_6, .int), (cA_8, .int), (cA_10, .int), (cA_12, .int), (cA_14, .int), (cA_16, .int), (cA_18, .int), (cA_20, .char), (cA_22, .boolean), (cA_24, .boolean)] s := hK
  refine W.widen (k := 15) (n := 85) (Nat.le_of_ble_eq_true rfl) (Nat.le_of_ble_eq_true rfl) ?_
  refine va_putF (D := (dC, dI)) (ci := 12) (v := .ref a_29) (ty := (.object "java/util/List")) (C := RX12) (T := TX12) (N := 26) hx hb hq i_X12 tyX12 tyX12_ok nmX12 hown hK hP hD hS 0 rfl rfl 23 (by decide) (hq _ q_1327) (fun _ h9 => h9) rfl hin rfl (by decide +kernel) rfl rfl (Nat.le_of_ble_eq_true rfl) dX12_init_152 (fun H locs hP hD hS => ?_)
  have hP : va_P (dC, dI) cls [(h0, .inr (12, [.int 0, .ref a_1, .ref a_3, .ref a_5, .int (-1), .int (-1), .int 0, .ref a_7, .ref a_9, .ref a_11, .ref a_13, .ref a_15, .ref a_17, .ref a_19, .ref a_21, .ref a_23, .int 0, .int 0, .null, .int 0, .int 45, .ref a_25, .ref a_27, .ref a_29, .null, .null])), (a_1, .inr (14, [.int 0, .ref tE, .int 0])), (a_3, .inr (14, [.int 0, .ref tE, .int 0])), (a_5, .inl (cA_6, 7, .inl (fun _ => 0))), (a_7, .inl (cA_8, 7, .inl (fun _ => 0))), (a_9, .inl (cA_10, 7, .inl (fun _ => 0))), (a_11, .inl (cA_12, 7, .inl (fun _ => 0))), (a_13, .inl (cA_14, 7, .inl (fun _ => 0))), (a_15, .inl (cA_16, 7, .inl (fun _ => 0))), (a_17, .inl (cA_18, 7, .inl (fun _ => 0))), (a_19, .inl (cA_20, 7, .inl (fun _ => 0))), (a_21, .inl (cA_22, 7, .inl (fun _ => 0))), (a_23, .inl (cA_24, 7, .inl (fun _ => 0))), (a_25, .inr (14, [.int 0, .ref tE, .int 0])), (a_27, .inr (14, [.int 0, .ref tE, .int 0])), (a_29, .inr (14, [.int 0, .ref tE, .int 0]))] H := hP
  have hD : va_D A [(h0, .inr (12, [.int 0, .ref a_1, .ref a_3, .ref a_5, .int (-1), .int (-1), .int 0, .ref a_7, .ref a_9, .ref a_11, .ref a_13, .ref a_15, .ref a_17, .ref a_19, .ref a_21, .ref a_23, .int 0, .int 0, .null, .int 0, .int 45, .ref a_25, .ref a_27, .ref a_29, .null, .null])), (a_1, .inr (14, [.int 0, .ref tE, .int 0])), (a_3, .inr (14, [.int 0, .ref tE, .int 0])), (a_5, .inl (cA_6, 7, .inl (fun _ => 0))), (a_7, .inl (cA_8, 7, .inl (fun _ => 0))), (a_9, .inl (cA_10, 7, .inl (fun _ => 0))), (a_11, .inl (cA_12, 7, .inl (fun _ => 0))), (a_13, .inl (cA_14, 7, .inl (fun _ => 0))), (a_15, .inl (cA_16, 7, .inl (fun _ => 0))), (a_17, .inl (cA_18, 7, .inl (fun _ => 0))), (a_19, .inl (cA_20, 7, .inl (fun _ => 0))), (a_21, .inl (cA_22, 7, .inl (fun _ => 0))), (a_23, .inl (cA_24, 7, .inl (fun _ => 0))), (a_25, .inr (14, [.int 0, .ref tE, .int 0])), (a_27, .inr (14, [.int 0, .ref tE, .int 0])), (a_29, .inr (14, [.int 0, .ref tE, .int 0]))] := hD
  refine lv_aload_n hx hb dX12_init_155 rfl (lv_at hl 0 rfl) ?_
  refine va_new (ci := 14) (fs := [.int 0, .null, .int 0]) (C := RJx4a65c) (T := TJx4a65c) (N := 3) hx hb hq i_Jx4a65c tyJx4a65c tyJx4a65c_ok hown (hq _ q_1271) (hq _ q_1272) (hq _ q_15) hK hP hD hS hA rfl (fun j hj => by rcases (show j = 0 ∨ j = 1 ∨ j = 2 by omega) with rfl | rfl | rfl <;> rfl) (Nat.le_of_ble_eq_true rfl) (Nat.le_of_ble_eq_true rfl) dX12_init_156 (fun a_31 H hP hD hS => ?_)
  have hP : va_P (dC, dI) cls [(h0, .inr (12, [.int 0, .ref a_1, .ref a_3, .ref a_5, .int (-1), .int (-1), .int 0, .ref a_7, .ref a_9, .ref a_11, .ref a_13, .ref a_15, .ref a_17, .ref a_19, .ref a_21, .ref a_23, .int 0, .int 0, .null, .int 0, .int 45, .ref a_25, .ref a_27, .ref a_29, .null, .null])), (a_1, .inr (14, [.int 0, .ref tE, .int 0])), (a_3, .inr (14, [.int 0, .ref tE, .int 0])), (a_5, .inl (cA_6, 7, .inl (fun _ => 0))), (a_7, .inl (cA_8, 7, .inl (fun _ => 0))), (a_9, .inl (cA_10, 7, .inl (fun _ => 0))), (a_11, .inl (cA_12, 7, .inl (fun _ => 0))), (a_13, .inl (cA_14, 7, .inl (fun _ => 0))), (a_15, .inl (cA_16, 7, .inl (fun _ => 0))), (a_17, .inl (cA_18, 7, .inl (fun _ => 0))), (a_19, .inl (cA_20, 7, .inl (fun _ => 0))), (a_21, .inl (cA_22, 7, .inl (fun _ => 0))), (a_23, .inl (cA_24, 7, .inl (fun _ => 0))), (a_25, .inr (14, [.int 0, .ref tE, .int 0])), (a_27, .inr (14, [.int 0, .ref tE, .int 0])), (a_29, .inr (14, [.int 0, .ref tE, .int 0])), (a_31, .inr (14, [.int 0, .null, .int 0]))] H := hP
  have hD : va_D A [(h0, .inr (12, [.int 0, .ref a_1, .ref a_3, .ref a_5, .int (-1), .int (-1), .int 0, .ref a_7, .ref a_9, .ref a_11, .ref a_13, .ref a_15, .ref a_17, .ref a_19, .ref a_21, .ref a_23, .int 0, .int 0, .null, .int 0, .int 45, .ref a_25, .ref a_27, .ref a_29, .null, .null])), (a_1, .inr (14, [.int 0, .ref tE, .int 0])), (a_3, .inr (14, [.int 0, .ref tE, .int 0])), (a_5, .inl (cA_6, 7, .inl (fun _ => 0))), (a_7, .inl (cA_8, 7, .inl (fun _ => 0))), (a_9, .inl (cA_10, 7, .inl (fun _ => 0))), (a_11, .inl (cA_12, 7, .inl (fun _ => 0))), (a_13, .inl (cA_14, 7, .inl (fun _ => 0))), (a_15, .inl (cA_16, 7, .inl (fun _ => 0))), (a_17, .inl (cA_18, 7, .inl (fun _ => 0))), (a_19, .inl (cA_20, 7, .inl (fun _ => 0))), (a_21, .inl (cA_22, 7, .inl (fun _ => 0))), (a_23, .inl (cA_24, 7, .inl (fun _ => 0))), (a_25, .inr (14, [.int 0, .ref tE, .int 0])), (a_27, .inr (14, [.int 0, .ref tE, .int 0])), (a_29, .inr (14, [.int 0, .ref tE, .int 0])), (a_31, .inr (14, [.int 0, .null, .int 0]))] := hD
  refine W.widen (k := 16) (n := 88) (Nat.le_of_ble_eq_true rfl) (Nat.le_of_ble_eq_true rfl) ?_
  refine lv_dup hx hb dX12_init_159 rfl ?_
  have hPc := hP.sub (ws' := [(a_31, .inr (14, [.int 0, .null, .int 0]))]) [16] rfl
  have hKc := hK.sub (tys' := []) [] rfl
  have hDc := hD.sub (ws' := [(a_31, .inr (14, [.int 0, .null, .int 0]))]) [16] (by decide) rfl
  have hFc := va_free (wc := [(a_31, .inr (14, [.int 0, .null, .int 0]))]) hD hS hA [16] rfl
  refine va_callv (va_runI (As := []) (rest := [.ref a_31, .ref h0]) ⟨hx, hb, hml, hown, hq⟩ (c_AL_init l hst tE adK adV dC dI a_31 H.size) (tcI 0 hq q_1275 q_15 q_1273 q_1274 rfl rfl rfl (by decide +kernel) ⟨Nat.le_of_ble_eq_true rfl, Nat.le_of_ble_eq_true rfl⟩) (pre.S (pre.of hPc hDc hKc ham hS hFc)) rfl rfl hl.1 rfl (lv_room (Nat.le_of_ble_eq_true rfl)) dX12_init_160 ⟨Nat.le_of_ble_eq_true rfl, Nat.le_of_ble_eq_true rfl⟩) hS (fun q _ h => hFc q h) hFc (fun u t H1 locs ht hvm hw hB hz1 hk1 hS => ?_)
  obtain ⟨hP1, hK1, hD1⟩ := hB
  rw [ht] at hP1
  have hK1 := va_K.moved hvm.symm hK1
  obtain ⟨hP, hD⟩ := va_join (wr := [(h0, .inr (12, [.int 0, .ref a_1, .ref a_3, .ref a_5, .int (-1), .int (-1), .int 0, .ref a_7, .ref a_9, .ref a_11, .ref a_13, .ref a_15, .ref a_17, .ref a_19, .ref a_21, .ref a_23, .int 0, .int 0, .null, .int 0, .int 45, .ref a_25, .ref a_27, .ref a_29, .null, .null])), (a_1, .inr (14, [.int 0, .ref tE, .int 0])), (a_3, .inr (14, [.int 0, .ref tE, .int 0])), (a_5, .inl (cA_6, 7, .inl (fun _ => 0))), (a_7, .inl (cA_8, 7, .inl (fun _ => 0))), (a_9, .inl (cA_10, 7, .inl (fun _ => 0))), (a_11, .inl (cA_12, 7, .inl (fun _ => 0))), (a_13, .inl (cA_14, 7, .inl (fun _ => 0))), (a_15, .inl (cA_16, 7, .inl (fun _ => 0))), (a_17, .inl (cA_18, 7, .inl (fun _ => 0))), (a_19, .inl (cA_20, 7, .inl (fun _ => 0))), (a_21, .inl (cA_22, 7, .inl (fun _ => 0))), (a_23, .inl (cA_24, 7, .inl (fun _ => 0))), (a_25, .inr (14, [.int 0, .ref tE, .int 0])), (a_27, .inr (14, [.int 0, .ref tE, .int 0])), (a_29, .inr (14, [.int 0, .ref tE, .int 0]))]) (w1 := [(a_31, .inr (14, [.int 0, .ref tE, .int 0]))]) (wc := [(a_31, .inr (14, [.int 0, .null, .int 0]))]) hP hD [16] [0, 1, 2, 3, 4, 5, 6, 7, 8, 9, 10, 11, 12, 13, 14, 15] rfl rfl (by decide) (by decide) hk1 hFc hP1 hD1
  have hK := (hK.sub (tys' := [(cA_6, .int), (cA_8, .int), (cA_10, .int), (cA_12, .int), (cA_14, .int), (cA_16, .int), (cA_18, .int), (cA_20, .char), (cA_22, .boolean), (cA_24, .boolean)]) [0, 1, 2, 3, 4, 5, 6, 7, 8, 9] rfl).app hK1
  generalize H1 = H at hP hS ⊢
  have hP : va_P (dC, dI) cls [(h0, .inr (12, [.int 0, .ref a_1, .ref a_3, .ref a_5, .int (-1), .int (-1), .int 0, .ref a_7, .ref a_9, .ref a_11, .ref a_13, .ref a_15, .ref a_17, .ref a_19, .ref a_21, .ref a_23, .int 0, .int 0, .null, .int 0, .int 45, .ref a_25, .ref a_27, .ref a_29, .null, .null])), (a_1, .inr (14, [.int 0, .ref tE, .int 0])), (a_3, .inr (14, [.int 0, .ref tE, .int 0])), (a_5, .inl (cA_6, 7, .inl (fun _ => 0))), (a_7, .inl (cA_8, 7, .inl (fun _ => 0))), (a_9, .inl (cA_10, 7, .inl (fun _ => 0))), (a_11, .inl (cA_12, 7, .inl (fun _ => 0))), (a_13, .inl (cA_14, 7, .inl (fun _ => 0))), (a_15, .inl (cA_16, 7, .inl (fun _ => 0))), (a_17, .inl (cA_18, 7, .inl (fun _ => 0))), (a_19, .inl (cA_20, 7, .inl (fun _ => 0))), (a_21, .inl (cA_22, 7, .inl (fun _ => 0))), (a_23, .inl (cA_24, 7, .inl (fun _ => 0))), (a_25, .inr (14, [.int 0, .ref tE, .int 0])), (a_27, .inr (14, [.int 0, .ref tE, .int 0])), (a_29, .inr (14, [.int 0, .ref tE, .int 0])), (a_31, .inr (14, [.int 0, .ref tE, .int 0]))] H := hP
  have hD : va_D A [(h0, .inr (12, [.int 0, .ref a_1, .ref a_3, .ref a_5, .int (-1), .int (-1), .int 0, .ref a_7, .ref a_9, .ref a_11, .ref a_13, .ref a_15, .ref a_17, .ref a_19, .ref a_21, .ref a_23, .int 0, .int 0, .null, .int 0, .int 45, .ref a_25, .ref a_27, .ref a_29, .null, .null])), (a_1, .inr (14, [.int 0, .ref tE, .int 0])), (a_3, .inr (14, [.int 0, .ref tE, .int 0])), (a_5, .inl (cA_6, 7, .inl (fun _ => 0))), (a_7, .inl (cA_8, 7, .inl (fun _ => 0))), (a_9, .inl (cA_10, 7, .inl (fun _ => 0))), (a_11, .inl (cA_12, 7, .inl (fun _ => 0))), (a_13, .inl (cA_14, 7, .inl (fun _ => 0))), (a_15, .inl (cA_16, 7, .inl (fun _ => 0))), (a_17, .inl (cA_18, 7, .inl (fun _ => 0))), (a_19, .inl (cA_20, 7, .inl (fun _ => 0))), (a_21, .inl (cA_22, 7, .inl (fun _ => 0))), (a_23, .inl (cA_24, 7, .inl (fun _ => 0))), (a_25, .inr (14, [.int 0, .ref tE, .int 0])), (a_27, .inr (14, [.int 0, .ref tE, .int 0])), (a_29, .inr (14, [.int 0, .ref tE, .int 0])), (a_31, .inr (14, [.int 0, .ref tE, .int 0]))] := hD
  have hK : va_K (dC, dI) cls [(cA_6, .int), (cA_8, .int), (cA_10, .int), (cA_12, .int), (cA_14, .int), (cA_16, .int), (cA_18, .int), (cA_20, .char), (cA_22, .boolean), (cA_24, .boolean)] s := hK
  refine W.widen (k := 16) (n := 88) (Nat.le_of_ble_eq_true rfl) (Nat.le_of_ble_eq_true rfl) ?_
  refine va_putF (D := (dC, dI)) (ci := 12) (v := .ref a_31) (ty := (.object "java/util/List")) (C := RX12) (T := TX12) (N := 26) hx hb hq i_X12 tyX12 tyX12_ok nmX12 hown hK hP hD hS 0 rfl rfl 24 (by decide) (hq _ q_1328) (fun _ h9 => h9) rfl hin rfl (by decide +kernel) rfl rfl (Nat.le_of_ble_eq_true rfl) dX12_init_163 (fun H locs hP hD hS => ?_)
  have hP : va_P (dC, dI) cls [(h0, .inr (12, [.int 0, .ref a_1, .ref a_3, .ref a_5, .int (-1), .int (-1), .int 0, .ref a_7, .ref a_9, .ref a_11, .ref a_13, .ref a_15, .ref a_17, .ref a_19, .ref a_21, .ref a_23, .int 0, .int 0, .null, .int 0, .int 45, .ref a_25, .ref a_27, .ref a_29, .ref a_31, .null])), (a_1, .inr (14, [.int 0, .ref tE, .int 0])), (a_3, .inr (14, [.int 0, .ref tE, .int 0])), (a_5, .inl (cA_6, 7, .inl (fun _ => 0))), (a_7, .inl (cA_8, 7, .inl (fun _ => 0))), (a_9, .inl (cA_10, 7, .inl (fun _ => 0))), (a_11, .inl (cA_12, 7, .inl (fun _ => 0))), (a_13, .inl (cA_14, 7, .inl (fun _ => 0))), (a_15, .inl (cA_16, 7, .inl (fun _ => 0))), (a_17, .inl (cA_18, 7, .inl (fun _ => 0))), (a_19, .inl (cA_20, 7, .inl (fun _ => 0))), (a_21, .inl (cA_22, 7, .inl (fun _ => 0))), (a_23, .inl (cA_24, 7, .inl (fun _ => 0))), (a_25, .inr (14, [.int 0, .ref tE, .int 0])), (a_27, .inr (14, [.int 0, .ref tE, .int 0])), (a_29, .inr (14, [.int 0, .ref tE, .int 0])), (a_31, .inr (14, [.int 0, .ref tE, .int 0]))] H := hP
  have hD : va_D A [(h0, .inr (12, [.int 0, .ref a_1, .ref a_3, .ref a_5, .int (-1), .int (-1), .int 0, .ref a_7, .ref a_9, .ref a_11, .ref a_13, .ref a_15, .ref a_17, .ref a_19, .ref a_21, .ref a_23, .int 0, .int 0, .null, .int 0, .int 45, .ref a_25, .ref a_27, .ref a_29, .ref a_31, .null])), (a_1, .inr (14, [.int 0, .ref tE, .int 0])), (a_3, .inr (14, [.int 0, .ref tE, .int 0])), (a_5, .inl (cA_6, 7, .inl (fun _ => 0))), (a_7, .inl (cA_8, 7, .inl (fun _ => 0))), (a_9, .inl (cA_10, 7, .inl (fun _ => 0))), (a_11, .inl (cA_12, 7, .inl (fun _ => 0))), (a_13, .inl (cA_14, 7, .inl (fun _ => 0))), (a_15, .inl (cA_16, 7, .inl (fun _ => 0))), (a_17, .inl (cA_18, 7, .inl (fun _ => 0))), (a_19, .inl (cA_20, 7, .inl (fun _ => 0))), (a_21, .inl (cA_22, 7, .inl (fun _ => 0))), (a_23, .inl (cA_24, 7, .inl (fun _ => 0))), (a_25, .inr (14, [.int 0, .ref tE, .int 0])), (a_27, .inr (14, [.int 0, .ref tE, .int 0])), (a_29, .inr (14, [.int 0, .ref tE, .int 0])), (a_31, .inr (14, [.int 0, .ref tE, .int 0]))] := hD
  refine lv_aload_n hx hb dX12_init_166 rfl (lv_at hl 0 rfl) ?_
  refine va_new (ci := 14) (fs := [.int 0, .null, .int 0]) (C := RJx4a65c) (T := TJx4a65c) (N := 3) hx hb hq i_Jx4a65c tyJx4a65c tyJx4a65c_ok hown (hq _ q_1271) (hq _ q_1272) (hq _ q_15) hK hP hD hS hA rfl (fun j hj => by rcases (show j = 0 ∨ j = 1 ∨ j = 2 by omega) with rfl | rfl | rfl <;> rfl) (Nat.le_of_ble_eq_true rfl) (Nat.le_of_ble_eq_true rfl) dX12_init_167 (fun a_33 H hP hD hS => ?_)
  have hP : va_P (dC, dI) cls [(h0, .inr (12, [.int 0, .ref a_1, .ref a_3, .ref a_5, .int (-1), .int (-1), .int 0, .ref a_7, .ref a_9, .ref a_11, .ref a_13, .ref a_15, .ref a_17, .ref a_19, .ref a_21, .ref a_23, .int 0, .int 0, .null, .int 0, .int 45, .ref a_25, .ref a_27, .ref a_29, .ref a_31, .null])), (a_1, .inr (14, [.int 0, .ref tE, .int 0])), (a_3, .inr (14, [.int 0, .ref tE, .int 0])), (a_5, .inl (cA_6, 7, .inl (fun _ => 0))), (a_7, .inl (cA_8, 7, .inl (fun _ => 0))), (a_9, .inl (cA_10, 7, .inl (fun _ => 0))), (a_11, .inl (cA_12, 7, .inl (fun _ => 0))), (a_13, .inl (cA_14, 7, .inl (fun _ => 0))), (a_15, .inl (cA_16, 7, .inl (fun _ => 0))), (a_17, .inl (cA_18, 7, .inl (fun _ => 0))), (a_19, .inl (cA_20, 7, .inl (fun _ => 0))), (a_21, .inl (cA_22, 7, .inl (fun _ => 0))), (a_23, .inl (cA_24, 7, .inl (fun _ => 0))), (a_25, .inr (14, [.int 0, .ref tE, .int 0])), (a_27, .inr (14, [.int 0, .ref tE, .int 0])), (a_29, .inr (14, [.int 0, .ref tE, .int 0])), (a_31, .inr (14, [.int 0, .ref tE, .int 0])), (a_33, .inr (14, [.int 0, .null, .int 0]))] H := hP
  have hD : va_D A [(h0, .inr (12, [.int 0, .ref a_1, .ref a_3, .ref a_5, .int (-1), .int (-1), .int 0, .ref a_7, .ref a_9, .ref a_11, .ref a_13, .ref a_15, .ref a_17, .ref a_19, .ref a_21, .ref a_23, .int 0, .int 0, .null, .int 0, .int 45, .ref a_25, .ref a_27, .ref a_29, .ref a_31, .null])), (a_1, .inr (14, [.int 0, .ref tE, .int 0])), (a_3, .inr (14, [.int 0, .ref tE, .int 0])), (a_5, .inl (cA_6, 7, .inl (fun _ => 0))), (a_7, .inl (cA_8, 7, .inl (fun _ => 0))), (a_9, .inl (cA_10, 7, .inl (fun _ => 0))), (a_11, .inl (cA_12, 7, .inl (fun _ => 0))), (a_13, .inl (cA_14, 7, .inl (fun _ => 0))), (a_15, .inl (cA_16, 7, .inl (fun _ => 0))), (a_17, .inl (cA_18, 7, .inl (fun _ => 0))), (a_19, .inl (cA_20, 7, .inl (fun _ => 0))), (a_21, .inl (cA_22, 7, .inl (fun _ => 0))), (a_23, .inl (cA_24, 7, .inl (fun _ => 0))), (a_25, .inr (14, [.int 0, .ref tE, .int 0])), (a_27, .inr (14, [.int 0, .ref tE, .int 0])), (a_29, .inr (14, [.int 0, .ref tE, .int 0])), (a_31, .inr (14, [.int 0, .ref tE, .int 0])), (a_33, .inr (14, [.int 0, .null, .int 0]))] := hD
  refine W.widen (k := 17) (n := 91) (Nat.le_of_ble_eq_true rfl) (Nat.le_of_ble_eq_true rfl) ?_
  refine lv_dup hx hb dX12_init_170 rfl ?_
  have hPc := hP.sub (ws' := [(a_33, .inr (14, [.int 0, .null, .int 0]))]) [17] rfl
  have hKc := hK.sub (tys' := []) [] rfl
  have hDc := hD.sub (ws' := [(a_33, .inr (14, [.int 0, .null, .int 0]))]) [17] (by decide) rfl
  have hFc := va_free (wc := [(a_33, .inr (14, [.int 0, .null, .int 0]))]) hD hS hA [17] rfl
  refine va_callv (va_runI (As := []) (rest := [.ref a_33, .ref h0]) ⟨hx, hb, hml, hown, hq⟩ (c_AL_init l hst tE adK adV dC dI a_33 H.size) (tcI 0 hq q_1275 q_15 q_1273 q_1274 rfl rfl rfl (by decide +kernel) ⟨Nat.le_of_ble_eq_true rfl, Nat.le_of_ble_eq_true rfl⟩) (pre.S (pre.of hPc hDc hKc ham hS hFc)) rfl rfl hl.1 rfl (lv_room (Nat.le_of_ble_eq_true rfl)) dX12_init_171 ⟨Nat.le_of_ble_eq_true rfl, Nat.le_of_ble_eq_true rfl⟩) hS (fun q _ h => hFc q h) hFc (fun u t H1 locs ht hvm hw hB hz1 hk1 hS => ?_)
  obtain ⟨hP1, hK1, hD1⟩ := hB
  rw [ht] at hP1
  have hK1 := va_K.moved hvm.symm hK1
  obtain ⟨hP, hD⟩ := va_join (wr := [(h0, .inr (12, [.int 0, .ref a_1, .ref a_3, .ref a_5, .int (-1), .int (-1), .int 0, .ref a_7, .ref a_9, .ref a_11, .ref a_13, .ref a_15, .ref a_17, .ref a_19, .ref a_21, .ref a_23, .int 0, .int 0, .null, .int 0, .int 45, .ref a_25, .ref a_27, .ref a_29, .ref a_31, .null])), (a_1, .inr (14, [.int 0, .ref tE, .int 0])), (a_3, .inr (14, [.int 0, .ref tE, .int 0])), (a_5, .inl (cA_6, 7, .inl (fun _ => 0))), (a_7, .inl (cA_8, 7, .inl (fun _ => 0))), (a_9, .inl (cA_10, 7, .inl (fun _ => 0))), (a_11, .inl (cA_12, 7, .inl (fun _ => 0))), (a_13, .inl (cA_14, 7, .inl (fun _ => 0))), (a_15, .inl (cA_16, 7, .inl (fun _ => 0))), (a_17, .inl (cA_18, 7, .inl (fun _ => 0))), (a_19, .inl (cA_20, 7, .inl (fun _ => 0))), (a_21, .inl (cA_22, 7, .inl (fun _ => 0))), (a_23, .inl (cA_24, 7, .inl (fun _ => 0))), (a_25, .inr (14, [.int 0, .ref tE, .int 0])), (a_27, .inr (14, [.int 0, .ref tE, .int 0])), (a_29, .inr (14, [.int 0, .ref tE, .int 0])), (a_31, .inr (14, [.int 0, .ref tE, .int 0]))]) (w1 := [(a_33, .inr (14, [.int 0, .ref tE, .int 0]))]) (wc := [(a_33, .inr (14, [.int 0, .null, .int 0]))]) hP hD [17] [0, 1, 2, 3, 4, 5, 6, 7, 8, 9, 10, 11, 12, 13, 14, 15, 16] rfl rfl (by decide) (by decide) hk1 hFc hP1 hD1
  have hK := (hK.sub (tys' := [(cA_6, .int), (cA_8, .int), (cA_10, .int), (cA_12, .int), (cA_14, .int), (cA_16, .int), (cA_18, .int), (cA_20, .char), (cA_22, .boolean), (cA_24, .boolean)]) [0, 1, 2, 3, 4, 5, 6, 7, 8, 9] rfl).app hK1
  generalize H1 = H at hP hS ⊢
  have hP : va_P (dC, dI) cls [(h0, .inr (12, [.int 0, .ref a_1, .ref a_3, .ref a_5, .int (-1), .int (-1), .int 0, .ref a_7, .ref a_9, .ref a_11, .ref a_13, .ref a_15, .ref a_17, .ref a_19, .ref a_21, .ref a_23, .int 0, .int 0, .null, .int 0, .int 45, .ref a_25, .ref a_27, .ref a_29, .ref a_31, .null])), (a_1, .inr (14, [.int 0, .ref tE, .int 0])), (a_3, .inr (14, [.int 0, .ref tE, .int 0])), (a_5, .inl (cA_6, 7, .inl (fun _ => 0))), (a_7, .inl (cA_8, 7, .inl (fun _ => 0))), (a_9, .inl (cA_10, 7, .inl (fun _ => 0))), (a_11, .inl (cA_12, 7, .inl (fun _ => 0))), (a_13, .inl (cA_14, 7, .inl (fun _ => 0))), (a_15, .inl (cA_16, 7, .inl (fun _ => 0))), (a_17, .inl (cA_18, 7, .inl (fun _ => 0))), (a_19, .inl (cA_20, 7, .inl (fun _ => 0))), (a_21, .inl (cA_22, 7, .inl (fun _ => 0))), (a_23, .inl (cA_24, 7, .inl (fun _ => 0))), (a_25, .inr (14, [.int 0, .ref tE, .int 0])), (a_27, .inr (14, [.int 0, .ref tE, .int 0])), (a_29, .inr (14, [.int 0, .ref tE, .int 0])), (a_31, .inr (14, [.int 0, .ref tE, .int 0])), (a_33, .inr (14, [.int 0, .ref tE, .int 0]))] H := hP
  have hD : va_D A [(h0, .inr (12, [.int 0, .ref a_1, .ref a_3, .ref a_5, .int (-1), .int (-1), .int 0, .ref a_7, .ref a_9, .ref a_11, .ref a_13, .ref a_15, .ref a_17, .ref a_19, .ref a_21, .ref a_23, .int 0, .int 0, .null, .int 0, .int 45, .ref a_25, .ref a_27, .ref a_29, .ref a_31, .null])), (a_1, .inr (14, [.int 0, .ref tE, .int 0])), (a_3, .inr (14, [.int 0, .ref tE, .int 0])), (a_5, .inl (cA_6, 7, .inl (fun _ => 0))), (a_7, .inl (cA_8, 7, .inl (fun _ => 0))), (a_9, .inl (cA_10, 7, .inl (fun _ => 0))), (a_11, .inl (cA_12, 7, .inl (fun _ => 0))), (a_13, .inl (cA_14, 7, .inl (fun _ => 0))), (a_15, .inl (cA_16, 7, .inl (fun _ => 0))), (a_17, .inl (cA_18, 7, .inl (fun _ => 0))), (a_19, .inl (cA_20, 7, .inl (fun _ => 0))), (a_21, .inl (cA_22, 7, .inl (fun _ => 0))), (a_23, .inl (cA_24, 7, .inl (fun _ => 0))), (a_25, .inr (14, [.int 0, .ref tE, .int 0])), (a_27, .inr (14, [.int 0, .ref tE, .int 0])), (a_29, .inr (14, [.int 0, .ref tE, .int 0])), (a_31, .inr (14, [.int 0, .ref tE, .int 0])), (a_33, .inr (14, [.int 0, .ref tE, .int 0]))] := hD
  have hK : va_K (dC, dI) cls [(cA_6, .int), (cA_8, .int), (cA_10, .int), (cA_12, .int), (cA_14, .int), (cA_16, .int), (cA_18, .int), (cA_20, .char), (cA_22, .boolean), (cA_24, .boolean)] s := hK
  refine W.widen (k := 17) (n := 91) (Nat.le_of_ble_eq_true rfl) (Nat.le_of_ble_eq_true rfl) ?_
  refine va_putF (D := (dC, dI)) (ci := 12) (v := .ref a_33) (ty := (.object "java/util/List")) (C := RX12) (T := TX12) (N := 26) hx hb hq i_X12 tyX12 tyX12_ok nmX12 hown hK hP hD hS 0 rfl rfl 25 (by decide) (hq _ q_1329) (fun _ h9 => h9) rfl hin rfl (by decide +kernel) rfl rfl (Nat.le_of_ble_eq_true rfl) dX12_init_174 (fun H locs hP hD hS => ?_)
  have hP : va_P (dC, dI) cls [(h0, .inr (12, [.int 0, .ref a_1, .ref a_3, .ref a_5, .int (-1), .int (-1), .int 0, .ref a_7, .ref a_9, .ref a_11, .ref a_13, .ref a_15, .ref a_17, .ref a_19, .ref a_21, .ref a_23, .int 0, .int 0, .null, .int 0, .int 45, .ref a_25, .ref a_27, .ref a_29, .ref a_31, .ref a_33])), (a_1, .inr (14, [.int 0, .ref tE, .int 0])), (a_3, .inr (14, [.int 0, .ref tE, .int 0])), (a_5, .inl (cA_6, 7, .inl (fun _ => 0))), (a_7, .inl (cA_8, 7, .inl (fun _ => 0))), (a_9, .inl (cA_10, 7, .inl (fun _ => 0))), (a_11, .inl (cA_12, 7, .inl (fun _ => 0))), (a_13, .inl (cA_14, 7, .inl (fun _ => 0))), (a_15, .inl (cA_16, 7, .inl (fun _ => 0))), (a_17, .inl (cA_18, 7, .inl (fun _ => 0))), (a_19, .inl (cA_20, 7, .inl (fun _ => 0))), (a_21, .inl (cA_22, 7, .inl (fun _ => 0))), (a_23, .inl (cA_24, 7, .inl (fun _ => 0))), (a_25, .inr (14, [.int 0, .ref tE, .int 0])), (a_27, .inr (14, [.int 0, .ref tE, .int 0])), (a_29, .inr (14, [.int 0, .ref tE, .int 0])), (a_31, .inr (14, [.int 0, .ref tE, .int 0])), (a_33, .inr (14, [.int 0, .ref tE, .int 0]))] H := hP
  have hD : va_D A [(h0, .inr (12, [.int 0, .ref a_1, .ref a_3, .ref a_5, .int (-1), .int (-1), .int 0, .ref a_7, .ref a_9, .ref a_11, .ref a_13, .ref a_15, .ref a_17, .ref a_19, .ref a_21, .ref a_23, .int 0, .int 0, .null, .int 0, .int 45, .ref a_25, .ref a_27, .ref a_29, .ref a_31, .ref a_33])), (a_1, .inr (14, [.int 0, .ref tE, .int 0])), (a_3, .inr (14, [.int 0, .ref tE, .int 0])), (a_5, .inl (cA_6, 7, .inl (fun _ => 0))), (a_7, .inl (cA_8, 7, .inl (fun _ => 0))), (a_9, .inl (cA_10, 7, .inl (fun _ => 0))), (a_11, .inl (cA_12, 7, .inl (fun _ => 0))), (a_13, .inl (cA_14, 7, .inl (fun _ => 0))), (a_15, .inl (cA_16, 7, .inl (fun _ => 0))), (a_17, .inl (cA_18, 7, .inl (fun _ => 0))), (a_19, .inl (cA_20, 7, .inl (fun _ => 0))), (a_21, .inl (cA_22, 7, .inl (fun _ => 0))), (a_23, .inl (cA_24, 7, .inl (fun _ => 0))), (a_25, .inr (14, [.int 0, .ref tE, .int 0])), (a_27, .inr (14, [.int 0, .ref tE, .int 0])), (a_29, .inr (14, [.int 0, .ref tE, .int 0])), (a_31, .inr (14, [.int 0, .ref tE, .int 0])), (a_33, .inr (14, [.int 0, .ref tE, .int 0]))] := hD
  refine lv_aload_n hx hb dX12_init_177 rfl (lv_at hl 0 rfl) ?_
  refine va_get (D := (dC, dI)) (ci := 12) (v := .ref a_5) (C := RX12) (T := TX12) (N := 26) hx hb hq i_X12 hown hK hP 0 rfl rfl 3 (by decide) (hq _ q_1307) (fun _ h9 => h9) rfl dX12_init_178 ?_
  refine lv_iconst (v := (-1)) hx hb dX12_init_181 (by decide) ?_
  have hPc := hP.sub (ws' := [(a_5, .inl (cA_6, 7, .inl (fun _ => 0)))]) [3] rfl
  have hKc := hK.sub (tys' := [(cA_6, .int)]) [0] rfl
  have hDc := hD.sub (ws' := [(a_5, .inl (cA_6, 7, .inl (fun _ => 0)))]) [3] (by decide) rfl
  have hFc := va_free (wc := [(a_5, .inl (cA_6, 7, .inl (fun _ => 0)))]) hD hS hA [3] rfl
  refine va_callv (va_runS (As := [.ref a_5, .int (-1)]) (rest := []) ⟨hx, hb, hml, hown, hq⟩ (c_fillI l hst tE adK adV dC dI a_5 cA_6 (fun _ => 0) (-1) H.size) (tcS 2 hq q_404 q_16 q_1300 q_403 rfl rfl (by decide +kernel) ⟨Nat.le_of_ble_eq_true rfl, Nat.le_of_ble_eq_true rfl⟩) (pre.S (pre.of hPc hDc hKc ham hS hFc)) rfl rfl hl.1 rfl (lv_room (Nat.le_of_ble_eq_true rfl)) dX12_init_182 ⟨Nat.le_of_ble_eq_true rfl, Nat.le_of_ble_eq_true rfl⟩) hS (fun q _ h => hFc q h) hFc (fun u t H1 locs ht hvm hw hB hz1 hk1 hS => ?_)
  obtain ⟨hP, hD⟩ := va_join (wr := [(h0, .inr (12, [.int 0, .ref a_1, .ref a_3, .ref a_5, .int (-1), .int (-1), .int 0, .ref a_7, .ref a_9, .ref a_11, .ref a_13, .ref a_15, .ref a_17, .ref a_19, .ref a_21, .ref a_23, .int 0, .int 0, .null, .int 0, .int 45, .ref a_25, .ref a_27, .ref a_29, .ref a_31, .ref a_33])), (a_1, .inr (14, [.int 0, .ref tE, .int 0])), (a_3, .inr (14, [.int 0, .ref tE, .int 0])), (a_7, .inl (cA_8, 7, .inl (fun _ => 0))), (a_9, .inl (cA_10, 7, .inl (fun _ => 0))), (a_11, .inl (cA_12, 7, .inl (fun _ => 0))), (a_13, .inl (cA_14, 7, .inl (fun _ => 0))), (a_15, .inl (cA_16, 7, .inl (fun _ => 0))), (a_17, .inl (cA_18, 7, .inl (fun _ => 0))), (a_19, .inl (cA_20, 7, .inl (fun _ => 0))), (a_21, .inl (cA_22, 7, .inl (fun _ => 0))), (a_23, .inl (cA_24, 7, .inl (fun _ => 0))), (a_25, .inr (14, [.int 0, .ref tE, .int 0])), (a_27, .inr (14, [.int 0, .ref tE, .int 0])), (a_29, .inr (14, [.int 0, .ref tE, .int 0])), (a_31, .inr (14, [.int 0, .ref tE, .int 0])), (a_33, .inr (14, [.int 0, .ref tE, .int 0]))]) (w1 := []) (wc := [(a_5, .inl (cA_6, 7, .inl (fun _ => 0)))]) hP hD [3] [0, 1, 2, 4, 5, 6, 7, 8, 9, 10, 11, 12, 13, 14, 15, 16, 17] rfl rfl (by decide) (by decide) hk1 hFc (fun k q h => by simp at h) ⟨fun i j p q h => by simp at h, fun k q h => by simp at h⟩
  generalize H1 = H at hP hS ⊢
  have hP : va_P (dC, dI) cls [(h0, .inr (12, [.int 0, .ref a_1, .ref a_3, .ref a_5, .int (-1), .int (-1), .int 0, .ref a_7, .ref a_9, .ref a_11, .ref a_13, .ref a_15, .ref a_17, .ref a_19, .ref a_21, .ref a_23, .int 0, .int 0, .null, .int 0, .int 45, .ref a_25, .ref a_27, .ref a_29, .ref a_31, .ref a_33])), (a_1, .inr (14, [.int 0, .ref tE, .int 0])), (a_3, .inr (14, [.int 0, .ref tE, .int 0])), (a_7, .inl (cA_8, 7, .inl (fun _ => 0))), (a_9, .inl (cA_10, 7, .inl (fun _ => 0))), (a_11, .inl (cA_12, 7, .inl (fun _ => 0))), (a_13, .inl (cA_14, 7, .inl (fun _ => 0))), (a_15, .inl (cA_16, 7, .inl (fun _ => 0))), (a_17, .inl (cA_18, 7, .inl (fun _ => 0))), (a_19, .inl (cA_20, 7, .inl (fun _ => 0))), (a_21, .inl (cA_22, 7, .inl (fun _ => 0))), (a_23, .inl (cA_24, 7, .inl (fun _ => 0))), (a_25, .inr (14, [.int 0, .ref tE, .int 0])), (a_27, .inr (14, [.int 0, .ref tE, .int 0])), (a_29, .inr (14, [.int 0, .ref tE, .int 0])), (a_31, .inr (14, [.int 0, .ref tE, .int 0])), (a_33, .inr (14, [.int 0, .ref tE, .int 0]))] H := hP
  have hD : va_D A [(h0, .inr (12, [.int 0, .ref a_1, .ref a_3, .ref a_5, .int (-1), .int (-1), .int 0, .ref a_7, .ref a_9, .ref a_11, .ref a_13, .ref a_15, .ref a_17, .ref a_19, .ref a_21, .ref a_23, .int 0, .int 0, .null, .int 0, .int 45, .ref a_25, .ref a_27, .ref a_29, .ref a_31, .ref a_33])), (a_1, .inr (14, [.int 0, .ref tE, .int 0])), (a_3, .inr (14, [.int 0, .ref tE, .int 0])), (a_7, .inl (cA_8, 7, .inl (fun _ => 0))), (a_9, .inl (cA_10, 7, .inl (fun _ => 0))), (a_11, .inl (cA_12, 7, .inl (fun _ => 0))), (a_13, .inl (cA_14, 7, .inl (fun _ => 0))), (a_15, .inl (cA_16, 7, .inl (fun _ => 0))), (a_17, .inl (cA_18, 7, .inl (fun _ => 0))), (a_19, .inl (cA_20, 7, .inl (fun _ => 0))), (a_21, .inl (cA_22, 7, .inl (fun _ => 0))), (a_23, .inl (cA_24, 7, .inl (fun _ => 0))), (a_25, .inr (14, [.int 0, .ref tE, .int 0])), (a_27, .inr (14, [.int 0, .ref tE, .int 0])), (a_29, .inr (14, [.int 0, .ref tE, .int 0])), (a_31, .inr (14, [.int 0, .ref tE, .int 0])), (a_33, .inr (14, [.int 0, .ref tE, .int 0]))] := hD
  have hK : va_K (dC, dI) cls [(cA_6, .int), (cA_8, .int), (cA_10, .int), (cA_12, .int), (cA_14, .int), (cA_16, .int), (cA_18, .int), (cA_20, .char), (cA_22, .boolean), (cA_24, .boolean)] s := hK
  refine W.widen (k := 17) (n := 91) (Nat.le_of_ble_eq_true rfl) (Nat.le_of_ble_eq_true rfl) ?_
  refine lv_aload_n hx hb dX12_init_185 rfl (lv_at hl 0 rfl) ?_
  refine va_get (D := (dC, dI)) (ci := 12) (v := .ref a_9) (C := RX12) (T := TX12) (N := 26) hx hb hq i_X12 hown hK hP 0 rfl rfl 8 (by decide) (hq _ q_1312) (fun _ h9 => h9) rfl dX12_init_186 ?_
  refine lv_iconst (v := (-1)) hx hb dX12_init_189 (by decide) ?_
  have hPc := hP.sub (ws' := [(a_9, .inl (cA_10, 7, .inl (fun _ => 0)))]) [4] rfl
  have hKc := hK.sub (tys' := [(cA_10, .int)]) [2] rfl
  have hDc := hD.sub (ws' := [(a_9, .inl (cA_10, 7, .inl (fun _ => 0)))]) [4] (by decide) rfl
  have hFc := va_free (wc := [(a_9, .inl (cA_10, 7, .inl (fun _ => 0)))]) hD hS hA [4] rfl
  refine va_callv (va_runS (As := [.ref a_9, .int (-1)]) (rest := []) ⟨hx, hb, hml, hown, hq⟩ (c_fillI l hst tE adK adV dC dI a_9 cA_10 (fun _ => 0) (-1) H.size) (tcS 2 hq q_404 q_16 q_1300 q_403 rfl rfl (by decide +kernel) ⟨Nat.le_of_ble_eq_true rfl, Nat.le_of_ble_eq_true rfl⟩) (pre.S (pre.of hPc hDc hKc ham hS hFc)) rfl rfl hl.1 rfl (lv_room (Nat.le_of_ble_eq_true rfl)) dX12_init_190 ⟨Nat.le_of_ble_eq_true rfl, Nat.le_of_ble_eq_true rfl⟩) hS (fun q _ h => hFc q h) hFc (fun u t H1 locs ht hvm hw hB hz1 hk1 hS => ?_)
  obtain ⟨hP, hD⟩ := va_join (wr := [(h0, .inr (12, [.int 0, .ref a_1, .ref a_3, .ref a_5, .int (-1), .int (-1), .int 0, .ref a_7, .ref a_9, .ref a_11, .ref a_13, .ref a_15, .ref a_17, .ref a_19, .ref a_21, .ref a_23, .int 0, .int 0, .null, .int 0, .int 45, .ref a_25, .ref a_27, .ref a_29, .ref a_31, .ref a_33])), (a_1, .inr (14, [.int 0, .ref tE, .int 0])), (a_3, .inr (14, [.int 0, .ref tE, .int 0])), (a_7, .inl (cA_8, 7, .inl (fun _ => 0))), (a_11, .inl (cA_12, 7, .inl (fun _ => 0))), (a_13, .inl (cA_14, 7, .inl (fun _ => 0))), (a_15, .inl (cA_16, 7, .inl (fun _ => 0))), (a_17, .inl (cA_18, 7, .inl (fun _ => 0))), (a_19, .inl (cA_20, 7, .inl (fun _ => 0))), (a_21, .inl (cA_22, 7, .inl (fun _ => 0))), (a_23, .inl (cA_24, 7, .inl (fun _ => 0))), (a_25, .inr (14, [.int 0, .ref tE, .int 0])), (a_27, .inr (14, [.int 0, .ref tE, .int 0])), (a_29, .inr (14, [.int 0, .ref tE, .int 0])), (a_31, .inr (14, [.int 0, .ref tE, .int 0])), (a_33, .inr (14, [.int 0, .ref tE, .int 0]))]) (w1 := []) (wc := [(a_9, .inl (cA_10, 7, .inl (fun _ => 0)))]) hP hD [4] [0, 1, 2, 3, 5, 6, 7, 8, 9, 10, 11, 12, 13, 14, 15, 16] rfl rfl (by decide) (by decide) hk1 hFc (fun k q h => by simp at h) ⟨fun i j p q h => by simp at h, fun k q h => by simp at h⟩
  generalize H1 = H at hP hS ⊢
  have hP : va_P (dC, dI) cls [(h0, .inr (12, [.int 0, .ref a_1, .ref a_3, .ref a_5, .int (-1), .int (-1), .int 0, .ref a_7, .ref a_9, .ref a_11, .ref a_13, .ref a_15, .ref a_17, .ref a_19, .ref a_21, .ref a_23, .int 0, .int 0, .null, .int 0, .int 45, .ref a_25, .ref a_27, .ref a_29, .ref a_31, .ref a_33])), (a_1, .inr (14, [.int 0, .ref tE, .int 0])), (a_3, .inr (14, [.int 0, .ref tE, .int 0])), (a_7, .inl (cA_8, 7, .inl (fun _ => 0))), (a_11, .inl (cA_12, 7, .inl (fun _ => 0))), (a_13, .inl (cA_14, 7, .inl (fun _ => 0))), (a_15, .inl (cA_16, 7, .inl (fun _ => 0))), (a_17, .inl (cA_18, 7, .inl (fun _ => 0))), (a_19, .inl (cA_20, 7, .inl (fun _ => 0))), (a_21, .inl (cA_22, 7, .inl (fun _ => 0))), (a_23, .inl (cA_24, 7, .inl (fun _ => 0))), (a_25, .inr (14, [.int 0, .ref tE, .int 0])), (a_27, .inr (14, [.int 0, .ref tE, .int 0])), (a_29, .inr (14, [.int 0, .ref tE, .int 0])), (a_31, .inr (14, [.int 0, .ref tE, .int 0])), (a_33, .inr (14, [.int 0, .ref tE, .int 0]))] H := hP
  have hD : va_D A [(h0, .inr (12, [.int 0, .ref a_1, .ref a_3, .ref a_5, .int (-1), .int (-1), .int 0, .ref a_7, .ref a_9, .ref a_11, .ref a_13, .ref a_15, .ref a_17, .ref a_19, .ref a_21, .ref a_23, .int 0, .int 0, .null, .int 0, .int 45, .ref a_25, .ref a_27, .ref a_29, .ref a_31, .ref a_33])), (a_1, .inr (14, [.int 0, .ref tE, .int 0])), (a_3, .inr (14, [.int 0, .ref tE, .int 0])), (a_7, .inl (cA_8, 7, .inl (fun _ => 0))), (a_11, .inl (cA_12, 7, .inl (fun _ => 0))), (a_13, .inl (cA_14, 7, .inl (fun _ => 0))), (a_15, .inl (cA_16, 7, .inl (fun _ => 0))), (a_17, .inl (cA_18, 7, .inl (fun _ => 0))), (a_19, .inl (cA_20, 7, .inl (fun _ => 0))), (a_21, .inl (cA_22, 7, .inl (fun _ => 0))), (a_23, .inl (cA_24, 7, .inl (fun _ => 0))), (a_25, .inr (14, [.int 0, .ref tE, .int 0])), (a_27, .inr (14, [.int 0, .ref tE, .int 0])), (a_29, .inr (14, [.int 0, .ref tE, .int 0])), (a_31, .inr (14, [.int 0, .ref tE, .int 0])), (a_33, .inr (14, [.int 0, .ref tE, .int 0]))] := hD
  have hK : va_K (dC, dI) cls [(cA_6, .int), (cA_8, .int), (cA_10, .int), (cA_12, .int), (cA_14, .int), (cA_16, .int), (cA_18, .int), (cA_20, .char), (cA_22, .boolean), (cA_24, .boolean)] s := hK
  refine W.widen (k := 17) (n := 91) (Nat.le_of_ble_eq_true rfl) (Nat.le_of_ble_eq_true rfl) ?_
  refine lv_aload_n hx hb dX12_init_193 rfl (lv_at hl 0 rfl) ?_
  refine va_get (D := (dC, dI)) (ci := 12) (v := .ref a_11) (C := RX12) (T := TX12) (N := 26) hx hb hq i_X12 hown hK hP 0 rfl rfl 9 (by decide) (hq _ q_1313) (fun _ h9 => h9) rfl dX12_init_194 ?_
  refine lv_iconst (v := (-1)) hx hb dX12_init_197 (by decide) ?_
  have hPc := hP.sub (ws' := [(a_11, .inl (cA_12, 7, .inl (fun _ => 0)))]) [4] rfl
  have hKc := hK.sub (tys' := [(cA_12, .int)]) [3] rfl
  have hDc := hD.sub (ws' := [(a_11, .inl (cA_12, 7, .inl (fun _ => 0)))]) [4] (by decide) rfl
  have hFc := va_free (wc := [(a_11, .inl (cA_12, 7, .inl (fun _ => 0)))]) hD hS hA [4] rfl
  refine va_callv (va_runS (As := [.ref a_11, .int (-1)]) (rest := []) ⟨hx, hb, hml, hown, hq⟩ (c_fillI l hst tE adK adV dC dI a_11 cA_12 (fun _ => 0) (-1) H.size) (tcS 2 hq q_404 q_16 q_1300 q_403 rfl rfl (by decide +kernel) ⟨Nat.le_of_ble_eq_true rfl, Nat.le_of_ble_eq_true rfl⟩) (pre.S (pre.of hPc hDc hKc ham hS hFc)) rfl rfl hl.1 rfl (lv_room (Nat.le_of_ble_eq_true rfl)) dX12_init_198 ⟨Nat.le_of_ble_eq_true rfl, Nat.le_of_ble_eq_true rfl⟩) hS (fun q _ h => hFc q h) hFc (fun u t H1 locs ht hvm hw hB hz1 hk1 hS => ?_)
  obtain ⟨hP, hD⟩ := va_join (wr := [(h0, .inr (12, [.int 0, .ref a_1, .ref a_3, .ref a_5, .int (-1), .int (-1), .int 0, .ref a_7, .ref a_9, .ref a_11, .ref a_13, .ref a_15, .ref a_17, .ref a_19, .ref a_21, .ref a_23, .int 0, .int 0, .null, .int 0, .int 45, .ref a_25, .ref a_27, .ref a_29, .ref a_31, .ref a_33])), (a_1, .inr (14, [.int 0, .ref tE, .int 0])), (a_3, .inr (14, [.int 0, .ref tE, .int 0])), (a_7, .inl (cA_8, 7, .inl (fun _ => 0))), (a_13, .inl (cA_14, 7, .inl (fun _ => 0))), (a_15, .inl (cA_16, 7, .inl (fun _ => 0))), (a_17, .inl (cA_18, 7, .inl (fun _ => 0))), (a_19, .inl (cA_20, 7, .inl (fun _ => 0))), (a_21, .inl (cA_22, 7, .inl (fun _ => 0))), (a_23, .inl (cA_24, 7, .inl (fun _ => 0))), (a_25, .inr (14, [.int 0, .ref tE, .int 0])), (a_27, .inr (14, [.int 0, .ref tE, .int 0])), (a_29, .inr (14, [.int 0, .ref tE, .int 0])), (a_31, .inr (14, [.int 0, .ref tE, .int 0])), (a_33, .inr (14, [.int 0, .ref tE, .int 0]))]) (w1 := []) (wc := [(a_11, .inl (cA_12, 7, .inl (fun _ => 0)))]) hP hD [4] [0, 1, 2, 3, 5, 6, 7, 8, 9, 10, 11, 12, 13, 14, 15] rfl rfl (by decide) (by decide) hk1 hFc (fun k q h => by simp at h) ⟨fun i j p q h => by simp at h, fun k q h => by simp at h⟩
  generalize H1 = H at hP hS ⊢
  have hP : va_P (dC, dI) cls [(h0, .inr (12, [.int 0, .ref a_1, .ref a_3, .ref a_5, .int (-1), .int (-1), .int 0, .ref a_7, .ref a_9, .ref a_11, .ref a_13, .ref a_15, .ref a_17, .ref a_19, .ref a_21, .ref a_23, .int 0, .int 0, .null, .int 0, .int 45, .ref a_25, .ref a_27, .ref a_29, .ref a_31, .ref a_33])), (a_1, .inr (14, [.int 0, .ref tE, .int 0])), (a_3, .inr (14, [.int 0, .ref tE, .int 0])), (a_7, .inl (cA_8, 7, .inl (fun _ => 0))), (a_13, .inl (cA_14, 7, .inl (fun _ => 0))), (a_15, .inl (cA_16, 7, .inl (fun _ => 0))), (a_17, .inl (cA_18, 7, .inl (fun _ => 0))), (a_19, .inl (cA_20, 7, .inl (fun _ => 0))), (a_21, .inl (cA_22, 7, .inl (fun _ => 0))), (a_23, .inl (cA_24, 7, .inl (fun _ => 0))), (a_25, .inr (14, [.int 0, .ref tE, .int 0])), (a_27, .inr (14, [.int 0, .ref tE, .int 0])), (a_29, .inr (14, [.int 0, .ref tE, .int 0])), (a_31, .inr (14, [.int 0, .ref tE, .int 0])), (a_33, .inr (14, [.int 0, .ref tE, .int 0]))] H := hP
  have hD : va_D A [(h0, .inr (12, [.int 0, .ref a_1, .ref a_3, .ref a_5, .int (-1), .int (-1), .int 0, .ref a_7, .ref a_9, .ref a_11, .ref a_13, .ref a_15, .ref a_17, .ref a_19, .ref a_21, .ref a_23, .int 0, .int 0, .null, .int 0, .int 45, .ref a_25, .ref a_27, .ref a_29, .ref a_31, .ref a_33])), (a_1, .inr (14, [.int 0, .ref tE, .int 0])), (a_3, .inr (14, [.int 0, .ref tE, .int 0])), (a_7, .inl (cA_8, 7, .inl (fun _ => 0))), (a_13, .inl (cA_14, 7, .inl (fun _ => 0))), (a_15, .inl (cA_16, 7, .inl (fun _ => 0))), (a_17, .inl (cA_18, 7, .inl (fun _ => 0))), (a_19, .inl (cA_20, 7, .inl (fun _ => 0))), (a_21, .inl (cA_22, 7, .inl (fun _ => 0))), (a_23, .inl (cA_24, 7, .inl (fun _ => 0))), (a_25, .inr (14, [.int 0, .ref tE, .int 0])), (a_27, .inr (14, [.int 0, .ref tE, .int 0])), (a_29, .inr (14, [.int 0, .ref tE, .int 0])), (a_31, .inr (14, [.int 0, .ref tE, .int 0])), (a_33, .inr (14, [.int 0, .ref tE, .int 0]))] := hD
  have hK : va_K (dC, dI) cls [(cA_6, .int), (cA_8, .int), (cA_10, .int), (cA_12, .int), (cA_14, .int), (cA_16, .int), (cA_18, .int), (cA_20, .char), (cA_22, .boolean), (cA_24, .boolean)] s := hK
  refine W.widen (k := 17) (n := 91) (Nat.le_of_ble_eq_true rfl) (Nat.le_of_ble_eq_true rfl) ?_
  refine lv_aload_n hx hb dX12_init_201 rfl (lv_at hl 0 rfl) ?_
  refine va_get (D := (dC, dI)) (ci := 12) (v := .ref a_13) (C := RX12) (T := TX12) (N := 26) hx hb hq i_X12 hown hK hP 0 rfl rfl 10 (by decide) (hq _ q_1314) (fun _ h9 => h9) rfl dX12_init_202 ?_
  refine lv_iconst (v := (-1)) hx hb dX12_init_205 (by decide) ?_
  have hPc := hP.sub (ws' := [(a_13, .inl (cA_14, 7, .inl (fun _ => 0)))]) [4] rfl
  have hKc := hK.sub (tys' := [(cA_14, .int)]) [4] rfl
  have hDc := hD.sub (ws' := [(a_13, .inl (cA_14, 7, .inl (fun _ => 0)))]) [4] (by decide) rfl
  have hFc := va_free (wc := [(a_13, .inl (cA_14, 7, .inl (fun _ => 0)))]) hD hS hA [4] rfl
  refine va_callv (va_runS (As := [.ref a_13, .int (-1)]) (rest := []) ⟨hx, hb, hml, hown, hq⟩ (c_fillI l hst tE adK adV dC dI a_13 cA_14 (fun _ => 0) (-1) H.size) (tcS 2 hq q_404 q_16 q_1300 q_403 rfl rfl (by decide +kernel) ⟨Nat.le_of_ble_eq_true rfl, Nat.le_of_ble_eq_true rfl⟩) (pre.S (pre.of hPc hDc hKc ham hS hFc)) rfl rfl hl.1 rfl (lv_room (Nat.le_of_ble_eq_true rfl)) dX12_init_206 ⟨Nat.le_of_ble_eq_true rfl, Nat.le_of_ble_eq_true rfl⟩) hS (fun q _ h => hFc q h) hFc (fun u t H1 locs ht hvm hw hB hz1 hk1 hS => ?_)
  obtain ⟨hP, hD⟩ := va_join (wr := [(h0, .inr (12, [.int 0, .ref a_1, .ref a_3, .ref a_5, .int (-1), .int (-1), .int 0, .ref a_7, .ref a_9, .ref a_11, .ref a_13, .ref a_15, .ref a_17, .ref a_19, .ref a_21, .ref a_23, .int 0, .int 0, .null, .int 0, .int 45, .ref a_25, .ref a_27, .ref a_29, .ref a_31, .ref a_33])), (a_1, .inr (14, [.int 0, .ref tE, .int 0])), (a_3, .inr (14, [.int 0, .ref tE, .int 0])), (a_7, .inl (cA_8, 7, .inl (fun _ => 0))), (a_15, .inl (cA_16, 7, .inl (fun _ => 0))), (a_17, .inl (cA_18, 7, .inl (fun _ => 0))), (a_19, .inl (cA_20, 7, .inl (fun _ => 0))), (a_21, .inl (cA_22, 7, .inl (fun _ => 0))), (a_23, .inl (cA_24, 7, .inl (fun _ => 0))), (a_25, .inr (14, [.int 0, .ref tE, .int 0])), (a_27, .inr (14, [.int 0, .ref tE, .int 0])), (a_29, .inr (14, [.int 0, .ref tE, .int 0])), (a_31, .inr (14, [.int 0, .ref tE, .int 0])), (a_33, .inr (14, [.int 0, .ref tE, .int 0]))]) (w1 := []) (wc := [(a_13, .inl (cA_14, 7, .inl (fun _ => 0)))]) hP hD [4] [0, 1, 2, 3, 5, 6, 7, 8, 9, 10, 11, 12, 13, 14] rfl rfl (by decide) (by decide) hk1 hFc (fun k q h => by simp at h) ⟨fun i j p q h => by simp at h, fun k q h => by simp at h⟩
  generalize H1 = H at hP hS ⊢
  have hP : va_P (dC, dI) cls [(h0, .inr (12, [.int 0, .ref a_1, .ref a_3, .ref a_5, .int (-1), .int (-1), .int 0, .ref a_7, .ref a_9, .ref a_11, .ref a_13, .ref a_15, .ref a_17, .ref a_19, .ref a_21, .ref a_23, .int 0, .int 0, .null, .int 0, .int 45, .ref a_25, .ref a_27, .ref a_29, .ref a_31, .ref a_33])), (a_1, .inr (14, [.int 0, .ref tE, .int 0])), (a_3, .inr (14, [.int 0, .ref tE, .int 0])), (a_7, .inl (cA_8, 7, .inl (fun _ => 0))), (a_15, .inl (cA_16, 7, .inl (fun _ => 0))), (a_17, .inl (cA_18, 7, .inl (fun _ => 0))), (a_19, .inl (cA_20, 7, .inl (fun _ => 0))), (a_21, .inl (cA_22, 7, .inl (fun _ => 0))), (a_23, .inl (cA_24, 7, .inl (fun _ => 0))), (a_25, .inr (14, [.int 0, .ref tE, .int 0])), (a_27, .inr (14, [.int 0, .ref tE, .int 0])), (a_29, .inr (14, [.int 0, .ref tE, .int 0])), (a_31, .inr (14, [.int 0, .ref tE, .int 0])), (a_33, .inr (14, [.int 0, .ref tE, .int 0]))] H := hP
  have hD : va_D A [(h0, .inr (12, [.int 0, .ref a_1, .ref a_3, .ref a_5, .int (-1), .int (-1), .int 0, .ref a_7, .ref a_9, .ref a_11, .ref a_13, .ref a_15, .ref a_17, .ref a_19, .ref a_21, .ref a_23, .int 0, .int 0, .null, .int 0, .int 45, .ref a_25, .ref a_27, .ref a_29, .ref a_31, .ref a_33])), (a_1, .inr (14, [.int 0, .ref tE, .int 0])), (a_3, .inr (14, [.int 0, .ref tE, .int 0])), (a_7, .inl (cA_8, 7, .inl (fun _ => 0))), (a_15, .inl (cA_16, 7, .inl (fun _ => 0))), (a_17, .inl (cA_18, 7, .inl (fun _ => 0))), (a_19, .inl (cA_20, 7, .inl (fun _ => 0))), (a_21, .inl (cA_22, 7, .inl (fun _ => 0))), (a_23, .inl (cA_24, 7, .inl (fun _ => 0))), (a_25, .inr (14, [.int 0, .ref tE, .int 0])), (a_27, .inr (14, [.int 0, .ref tE, .int 0])), (a_29, .inr (14, [.int 0, .ref tE, .int 0])), (a_31, .inr (14, [.int 0, .ref tE, .int 0])), (a_33, .inr (14, [.int 0, .ref tE, .int 0]))] := hD
  have hK : va_K (dC, dI) cls [(cA_6, .int), (cA_8, .int), (cA_10, .int), (cA_12, .int), (cA_14, .int), (cA_16, .int), (cA_18, .int), (cA_20, .char), (cA_22, .boolean), (cA_24, .boolean)] s := hK
  refine W.widen (k := 17) (n := 91) (Nat.le_of_ble_eq_true rfl) (Nat.le_of_ble_eq_true rfl) ?_
  refine lv_aload_n hx hb dX12_init_209 rfl (lv_at hl 0 rfl) ?_
  refine va_get (D := (dC, dI)) (ci := 12) (v := .ref a_15) (C := RX12) (T := TX12) (N := 26) hx hb hq i_X12 hown hK hP 0 rfl rfl 11 (by decide) (hq _ q_1315) (fun _ h9 => h9) rfl dX12_init_210 ?_
  refine lv_iconst (v := (-1)) hx hb dX12_init_213 (by decide) ?_
  have hPc := hP.sub (ws' := [(a_15, .inl (cA_16, 7, .inl (fun _ => 0)))]) [4] rfl
  have hKc := hK.sub (tys' := [(cA_16, .int)]) [5] rfl
  have hDc := hD.sub (ws' := [(a_15, .inl (cA_16, 7, .inl (fun _ => 0)))]) [4] (by decide) rfl
  have hFc := va_free (wc := [(a_15, .inl (cA_16, 7, .inl (fun _ => 0)))]) hD hS hA [4] rfl
  refine va_callv (va_runS (As := [.ref a_15, .int (-1)]) (rest := []) ⟨hx, hb, hml, hown, hq⟩ (c_fillI l hst tE adK adV dC dI a_15 cA_16 (fun _ => 0) (-1) H.size) (tcS 2 hq q_404 q_16 q_1300 q_403 rfl rfl (by decide +kernel) ⟨Nat.le_of_ble_eq_true rfl, Nat.le_of_ble_eq_true rfl⟩) (pre.S (pre.of hPc hDc hKc ham hS hFc)) rfl rfl hl.1 rfl (lv_room (Nat.le_of_ble_eq_true rfl)) dX12_init_214 ⟨Nat.le_of_ble_eq_true rfl, Nat.le_of_ble_eq_true rfl⟩) hS (fun q _ h => hFc q h) hFc (fun u t H1 locs ht hvm hw hB hz1 hk1 hS => ?_)
  obtain ⟨hP, hD⟩ := va_join (wr := [(h0, .inr (12, [.int 0, .ref a_1, .ref a_3, .ref a_5, .int (-1), .int (-1), .int 0, .ref a_7, .ref a_9, .ref a_11, .ref a_13, .ref a_15, .ref a_17, .ref a_19, .ref a_21, .ref a_23, .int 0, .int 0, .null, .int 0, .int 45, .ref a_25, .ref a_27, .ref a_29, .ref a_31, .ref a_33])), (a_1, .inr (14, [.int 0, .ref tE, .int 0])), (a_3, .inr (14, [.int 0, .ref tE, .int 0])), (a_7, .inl (cA_8, 7, .inl (fun _ => 0))), (a_17, .inl (cA_18, 7, .inl (fun _ => 0))), (a_19, .inl (cA_20, 7, .inl (fun _ => 0))), (a_21, .inl (cA_22, 7, .inl (fun _ => 0))), (a_23, .inl (cA_24, 7, .inl (fun _ => 0))), (a_25, .inr (14, [.int 0, .ref tE, .int 0])), (a_27, .inr (14, [.int 0, .ref tE, .int 0])), (a_29, .inr (14, [.int 0, .ref tE, .int 0])), (a_31, .inr (14, [.int 0, .ref tE, .int 0])), (a_33, .inr (14, [.int 0, .ref tE, .int 0]))]) (w1 := []) (wc := [(a_15, .inl (cA_16, 7, .inl (fun _ => 0)))]) hP hD [4] [0, 1, 2, 3, 5, 6, 7, 8, 9, 10, 11, 12, 13] rfl rfl (by decide) (by decide) hk1 hFc (fun k q h => by simp at h) ⟨fun i j p q h => by simp at h, fun k q h => by simp at h⟩
  generalize H1 = H at hP hS ⊢
  have hP : va_P (dC, dI) cls [(h0, .inr (12, [.int 0, .ref a_1, .ref a_3, .ref a_5, .int (-1), .int (-1), .int 0, .ref a_7, .ref a_9, .ref a_11, .ref a_13, .ref a_15, .ref a_17, .ref a_19, .ref a_21, .ref a_23, .int 0, .int 0, .null, .int 0, .int 45, .ref a_25, .ref a_27, .ref a_29, .ref a_31, .ref a_33])), (a_1, .inr (14, [.int 0, .ref tE, .int 0])), (a_3, .inr (14, [.int 0, .ref tE, .int 0])), (a_7, .inl (cA_8, 7, .inl (fun _ => 0))), (a_17, .inl (cA_18, 7, .inl (fun _ => 0))), (a_19, .inl (cA_20, 7, .inl (fun _ => 0))), (a_21, .inl (cA_22, 7, .inl (fun _ => 0))), (a_23, .inl (cA_24, 7, .inl (fun _ => 0))), (a_25, .inr (14, [.int 0, .ref tE, .int 0])), (a_27, .inr (14, [.int 0, .ref tE, .int 0])), (a_29, .inr (14, [.int 0, .ref tE, .int 0])), (a_31, .inr (14, [.int 0, .ref tE, .int 0])), (a_33, .inr (14, [.int 0, .ref tE, .int 0]))] H := hP
  have hD : va_D A [(h0, .inr (12, [.int 0, .ref a_1, .ref a_3, .ref a_5, .int (-1), .int (-1), .int 0, .ref a_7, .ref a_9, .ref a_11, .ref a_13, .ref a_15, .ref a_17, .ref a_19, .ref a_21, .ref a_23, .int 0, .int 0, .null, .int 0, .int 45, .ref a_25, .ref a_27, .ref a_29, .ref a_31, .ref a_33])), (a_1, .inr (14, [.int 0, .ref tE, .int 0])), (a_3, .inr (14, [.int 0, .ref tE, .int 0])), (a_7, .inl (cA_8, 7, .inl (fun _ => 0))), (a_17, .inl (cA_18, 7, .inl (fun _ => 0))), (a_19, .inl (cA_20, 7, .inl (fun _ => 0))), (a_21, .inl (cA_22, 7, .inl (fun _ => 0))), (a_23, .inl (cA_24, 7, .inl (fun _ => 0))), (a_25, .inr (14, [.int 0, .ref tE, .int 0])), (a_27, .inr (14, [.int 0, .ref tE, .int 0])), (a_29, .inr (14, [.int 0, .ref tE, .int 0])), (a_31, .inr (14, [.int 0, .ref tE, .int 0])), (a_33, .inr (14, [.int 0, .ref tE, .int 0]))] := hD
  have hK : va_K (dC, dI) cls [(cA_6, .int), (cA_8, .int), (cA_10, .int), (cA_12, .int), (cA_14, .int), (cA_16, .int), (cA_18, .int), (cA_20, .char), (cA_22, .boolean), (cA_24, .boolean)] s := hK
  refine W.widen (k := 17) (n := 91) (Nat.le_of_ble_eq_true rfl) (Nat.le_of_ble_eq_true rfl) ?_
  refine lv_aload_n hx hb dX12_init_217 rfl (lv_at hl 0 rfl) ?_
  refine va_get (D := (dC, dI)) (ci := 12) (v := .ref a_19) (C := RX12) (T := TX12) (N := 26) hx hb hq i_X12 hown hK hP 0 rfl rfl 13 (by decide) (hq _ q_1317) (fun _ h9 => h9) rfl dX12_init_218 ?_
  refine lv_bipush (v := 45) hx hb dX12_init_221 (by decide) ?_
  have hPc := hP.sub (ws' := [(a_19, .inl (cA_20, 7, .inl (fun _ => 0)))]) [5] rfl
  have hKc := hK.sub (tys' := [(cA_20, .char)]) [7] rfl
  have hDc := hD.sub (ws' := [(a_19, .inl (cA_20, 7, .inl (fun _ => 0)))]) [5] (by decide) rfl
  have hFc := va_free (wc := [(a_19, .inl (cA_20, 7, .inl (fun _ => 0)))]) hD hS hA [5] rfl
  refine va_callv (va_runS (As := [.ref a_19, .int 45]) (rest := []) ⟨hx, hb, hml, hown, hq⟩ (c_fillC l hst tE adK adV dC dI a_19 cA_20 (fun _ => 0) 45 H.size) (tcS 2 hq q_1303 q_16 q_1301 q_1302 rfl rfl (by decide +kernel) ⟨Nat.le_of_ble_eq_true rfl, Nat.le_of_ble_eq_true rfl⟩) (pre.S (pre.of hPc hDc hKc ham hS hFc)) rfl rfl hl.1 rfl (lv_room (Nat.le_of_ble_eq_true rfl)) dX12_init_223 ⟨Nat.le_of_ble_eq_true rfl, Nat.le_of_ble_eq_true rfl⟩) hS (fun q _ h => hFc q h) hFc (fun u t H1 locs ht hvm hw hB hz1 hk1 hS => ?_)
  obtain ⟨hP, hD⟩ := va_join (wr := [(h0, .inr (12, [.int 0, .ref a_1, .ref a_3, .ref a_5, .int (-1), .int (-1), .int 0, .ref a_7, .ref a_9, .ref a_11, .ref a_13, .ref a_15, .ref a_17, .ref a_19, .ref a_21, .ref a_23, .int 0, .int 0, .null, .int 0, .int 45, .ref a_25, .ref a_27, .ref a_29, .ref a_31, .ref a_33])), (a_1, .inr (14, [.int 0, .ref tE, .int 0])), (a_3, .inr (14, [.int 0, .ref tE, .int 0])), (a_7, .inl (cA_8, 7, .inl (fun _ => 0))), (a_17, .inl (cA_18, 7, .inl (fun _ => 0))), (a_21, .inl (cA_22, 7, .inl (fun _ => 0))), (a_23, .inl (cA_24, 7, .inl (fun _ => 0))), (a_25, .inr (14, [.int 0, .ref tE, .int 0])), (a_27, .inr (14, [.int 0, .ref tE, .int 0])), (a_29, .inr (14, [.int 0, .ref tE, .int 0])), (a_31, .inr (14, [.int 0, .ref tE, .int 0])), (a_33, .inr (14, [.int 0, .ref tE, .int 0]))]) (w1 := []) (wc := [(a_19, .inl (cA_20, 7, .inl (fun _ => 0)))]) hP hD [5] [0, 1, 2, 3, 4, 6, 7, 8, 9, 10, 11, 12] rfl rfl (by decide) (by decide) hk1 hFc (fun k q h => by simp at h) ⟨fun i j p q h => by simp at h, fun k q h => by simp at h⟩
  generalize H1 = H at hP hS ⊢
  have hP : va_P (dC, dI) cls [(h0, .inr (12, [.int 0, .ref a_1, .ref a_3, .ref a_5, .int (-1), .int (-1), .int 0, .ref a_7, .ref a_9, .ref a_11, .ref a_13, .ref a_15, .ref a_17, .ref a_19, .ref a_21, .ref a_23, .int 0, .int 0, .null, .int 0, .int 45, .ref a_25, .ref a_27, .ref a_29, .ref a_31, .ref a_33])), (a_1, .inr (14, [.int 0, .ref tE, .int 0])), (a_3, .inr (14, [.int 0, .ref tE, .int 0])), (a_7, .inl (cA_8, 7, .inl (fun _ => 0))), (a_17, .inl (cA_18, 7, .inl (fun _ => 0))), (a_21, .inl (cA_22, 7, .inl (fun _ => 0))), (a_23, .inl (cA_24, 7, .inl (fun _ => 0))), (a_25, .inr (14, [.int 0, .ref tE, .int 0])), (a_27, .inr (14, [.int 0, .ref tE, .int 0])), (a_29, .inr (14, [.int 0, .ref tE, .int 0])), (a_31, .inr (14, [.int 0, .ref tE, .int 0])), (a_33, .inr (14, [.int 0, .ref tE, .int 0]))] H := hP
  have hD : va_D A [(h0, .inr (12, [.int 0, .ref a_1, .ref a_3, .ref a_5, .int (-1), .int (-1), .int 0, .ref a_7, .ref a_9, .ref a_11, .ref a_13, .ref a_15, .ref a_17, .ref a_19, .ref a_21, .ref a_23, .int 0, .int 0, .null, .int 0, .int 45, .ref a_25, .ref a_27, .ref a_29, .ref a_31, .ref a_33])), (a_1, .inr (14, [.int 0, .ref tE, .int 0])), (a_3, .inr (14, [.int 0, .ref tE, .int 0])), (a_7, .inl (cA_8, 7, .inl (fun _ => 0))), (a_17, .inl (cA_18, 7, .inl (fun _ => 0))), (a_21, .inl (cA_22, 7, .inl (fun _ => 0))), (a_23, .inl (cA_24, 7, .inl (fun _ => 0))), (a_25, .inr (14, [.int 0, .ref tE, .int 0])), (a_27, .inr (14, [.int 0, .ref tE, .int 0])), (a_29, .inr (14, [.int 0, .ref tE, .int 0])), (a_31, .inr (14, [.int 0, .ref tE, .int 0])), (a_33, .inr (14, [.int 0, .ref tE, .int 0]))] := hD
  have hK : va_K (dC, dI) cls [(cA_6, .int), (cA_8, .int), (cA_10, .int), (cA_12, .int), (cA_14, .int), (cA_16, .int), (cA_18, .int), (cA_20, .char), (cA_22, .boolean), (cA_24, .boolean)] s := hK
  refine W.widen (k := 17) (n := 91) (Nat.le_of_ble_eq_true rfl) (Nat.le_of_ble_eq_true rfl) ?_
  refine W.widen (k := 17) (n := 91) (Nat.le_of_ble_eq_true rfl) (Nat.le_of_ble_eq_true rfl) ?_
  have hP9 := hP.sub (ws' := [(h0, .inr (12, [.int 0, .ref a_1, .ref a_3, .ref a_5, .int (-1), .int (-1), .int 0, .ref a_7, .ref a_9, .ref a_11, .ref a_13, .ref a_15, .ref a_17, .ref a_19, .ref a_21, .ref a_23, .int 0, .int 0, .null, .int 0, .int 45, .ref a_25, .ref a_27, .ref a_29, .ref a_31, .ref a_33])), (a_1, .inr (14, [.int 0, .ref tE, .int 0])), (a_3, .inr (14, [.int 0, .ref tE, .int 0]))]) [0, 1, 2] rfl
  have hD9 := hD.sub (ws' := [(h0, .inr (12, [.int 0, .ref a_1, .ref a_3, .ref a_5, .int (-1), .int (-1), .int 0, .ref a_7, .ref a_9, .ref a_11, .ref a_13, .ref a_15, .ref a_17, .ref a_19, .ref a_21, .ref a_23, .int 0, .int 0, .null, .int 0, .int 45, .ref a_25, .ref a_27, .ref a_29, .ref a_31, .ref a_33])), (a_1, .inr (14, [.int 0, .ref tE, .int 0])), (a_3, .inr (14, [.int 0, .ref tE, .int 0]))]) [0, 1, 2] (by decide) rfl
  have hK9 := hK.sub (tys' := []) [] rfl
  exact W.vret hx hb hr (fun t ht hW => ⟨⟨(), rfl, trivial, ⟨a_1, a_3, a_5, a_7, a_9, a_11, a_13, a_15, a_17, a_19, a_21, a_23, a_25, a_27, a_29, a_31, a_33, by rw [ht]; exact hP9, va_K.moved hW.alike hK9, hD9⟩⟩, hS.F ht⟩) hS.2.2 dX12_init_226
