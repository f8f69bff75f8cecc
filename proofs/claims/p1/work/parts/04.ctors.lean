abbrev cX5_init : ByteArray := prog_7_method_1_code
def yX5_init : MethodName := ⟨RX5, "<init>", "()V"⟩
theorem dX5_init_0 : decode cX5_init 0 = .ok (.aload_n 0, 1) := by decide +kernel
theorem dX5_init_1 : decode cX5_init 1 = .ok (.invokespecial 3, 3) := by decide +kernel
theorem q_242 : (Cond.methodLink "NightfallVillage$History" 3 objectInit) ∈ tw := tw_in (i := 242) (by decide +kernel) (by decide +kernel)
theorem q_45 : (Cond.instanceMethod objectInit) ∈ tw := tw_in (i := 45) (by decide +kernel) (by decide +kernel)
theorem q_46 : (Cond.code objectInit ⟨#[0xb1]⟩ 1 none) ∈ tw := tw_in (i := 46) (by decide +kernel) (by decide +kernel)
theorem dX5_init_4 : decode cX5_init 4 = .ok (.aload_n 0, 1) := by decide +kernel
theorem dX5_init_5 : decode cX5_init 5 = .ok (.sipush 512, 3) := by decide +kernel
theorem dX5_init_8 : decode cX5_init 8 = .ok (.newarray .int, 2) := by decide +kernel
theorem q_81 : (Cond.arrayClass Jvm.ClassFile.FieldType.int) ∈ tw := tw_in (i := 81) (by decide +kernel) (by decide +kernel)
theorem dX5_init_10 : decode cX5_init 10 = .ok (.putfield 9, 3) := by decide +kernel
theorem q_243 : (Cond.fieldLink "NightfallVillage$History" 9 "NightfallVillage$History" "entries" "[I") ∈ tw := tw_in (i := 243) (by decide +kernel) (by decide +kernel)
theorem dX5_init_13 : decode cX5_init 13 = .ok (.return_, 1) := by decide +kernel
set_option maxHeartbeats 4000000 in
set_option maxRecDepth 100000 in
/-- History(): ends -/
theorem c_History_init (l : Launch) (hst : l.stackTraces = false) (tE : Nat) (adK adV : Nat → Nat) (dC : Nat → ClassId) (dI : Nat → Nat → Nat) (h0 : Nat) (sz : Nat) : Met l yX5_init (Cond.code yX5_init cX5_init 1 none :: tw) ({ frames := 1, cells := 1, slots := 512, locals := 12 }) (va_Pc [.ref h0] (pre tE adK adV (dC, dI) [(h0, .inr (5, [.null, .int 0]))] [] sz)) (va_Qv (fun (_ : Unit) => True) (fun (_ : Unit) (_ : State) => True) (va_A [(h0, .inr (5, [.null, .int 0]))] sz)) 1 512 (va_A [(h0, .inr (5, [.null, .int 0]))] sz) := by
  refine Met.ofW (cc := cX5_init) (maxL := 1) (ret := none) (by decide) rfl ?_
  intro p e s m args below meth c s₁ B hml hv
  obtain ⟨rfl, hsz, hP, hK, hD0, ham⟩ := hv
  have hx := B.exec
  have hb := B.bytes
  have hr := B.returns
  have hts := atoms_spec B.pre
  have hq : ∀ w ∈ tw, w.before _ s = true := fun w h => hts w (List.mem_cons_of_mem _ h)
  have hown : s.vm.findClass RX5 = some m.cls := findClass_of_methodNamed B.named
  have hlocks := B.notSynchronized
  have hin : meth.name = "<init>" := (name_of_methodNamed B.named B.method).1
  subst hsz
  have hD := hD0.self (sz := s.heap.size)
  generalize hAe : va_A [(h0, .inr (5, [.null, .int 0]))] s.heap.size = A at hD ham ⊢
  have hA : ∀ q : Nat, s.heap.size ≤ q → A q := fun q h => by rw [← hAe]; exact Or.inr h
  have hS : va_S A s.heap s.heap [] := va_S.rf
  have hP : va_P (dC, dI) cls [(h0, .inr (5, [.null, .int 0]))] s.heap := hP
  have hl := lv_entry ([.ref h0]) (n := 1) (Nat.le_of_ble_eq_true rfl)
  rw [lg_entry_eq]
  generalize (lg_sl ([.ref h0]) ++ List.replicate (1 - (lg_sl ([.ref h0])).length) Slot.unset).toArray = ls at hl ⊢
  have hl : lv_has ls 1 [(0, .ref h0)] := hl
  refine lv_aload_n hx hb dX5_init_0 rfl (lv_at hl 0 rfl) ?_
  refine W.objInit hx hb hown (hq _ q_242) (hq _ q_45) (hq _ q_46) rfl (by rw [hml]; exact hl.1) rfl dX5_init_1 (Nat.le_of_ble_eq_true rfl) (Nat.le_of_ble_eq_true rfl) ?_
  refine W.eq (g2 := F0 m 4 ls []) rfl ?_
  refine lv_aload_n hx hb dX5_init_4 rfl (lv_at hl 0 rfl) ?_
  refine lv_sipush (v := 512) hx hb dX5_init_5 (by decide) ?_
  refine va_newa (atype := .int) (a0 := (512, .inl (fun _ => 0))) hx hb (hq _ q_81) rfl hK hP hD hS hA (fun _ => rfl) (by decide) (by decide) (Nat.le_of_ble_eq_true rfl) (Nat.le_of_ble_eq_true rfl) (Nat.le_of_ble_eq_true rfl) dX5_init_8 (fun a_1 cA_2 H hK hP hD hS => ?_)
  have hP : va_P (dC, dI) cls [(h0, .inr (5, [.null, .int 0])), (a_1, .inl (cA_2, 512, .inl (fun _ => 0)))] H := hP
  have hD : va_D A [(h0, .inr (5, [.null, .int 0])), (a_1, .inl (cA_2, 512, .inl (fun _ => 0)))] := hD
  have hK : va_K (dC, dI) cls [(cA_2, .int)] s := hK
  refine W.widen (k := 1) (n := 512) (Nat.le_of_ble_eq_true rfl) (Nat.le_of_ble_eq_true rfl) ?_
  refine va_putF (D := (dC, dI)) (ci := 5) (v := .ref a_1) (ty := (.array .int)) (C := RX5) (T := TX5) (N := 2) hx hb hq i_X5 tyX5 tyX5_ok nmX5 hown hK hP hD hS 0 rfl rfl 0 (by decide) (hq _ q_243) (fun _ h9 => h9) rfl hin rfl (by decide +kernel) rfl rfl (Nat.le_of_ble_eq_true rfl) dX5_init_10 (fun H locs hP hD hS => ?_)
  have hP : va_P (dC, dI) cls [(h0, .inr (5, [.ref a_1, .int 0])), (a_1, .inl (cA_2, 512, .inl (fun _ => 0)))] H := hP
  have hD : va_D A [(h0, .inr (5, [.ref a_1, .int 0])), (a_1, .inl (cA_2, 512, .inl (fun _ => 0)))] := hD
  refine W.widen (k := 1) (n := 512) (Nat.le_of_ble_eq_true rfl) (Nat.le_of_ble_eq_true rfl) ?_
  exact W.vret hx hb hr (fun t ht hW => ⟨⟨(), rfl, trivial, trivial⟩, hS.F ht⟩) hS.2.2 dX5_init_13
abbrev cX0_init : ByteArray := prog_2_method_1_code
def yX0_init : MethodName := ⟨RX0, "<init>", "()V"⟩
theorem dX0_init_0 : decode cX0_init 0 = .ok (.aload_n 0, 1) := by decide +kernel
theorem dX0_init_1 : decode cX0_init 1 = .ok (.invokespecial 3, 3) := by decide +kernel
theorem q_276 : (Cond.methodLink "NightfallVillage$Claims" 3 objectInit) ∈ tw := tw_in (i := 276) (by decide +kernel) (by decide +kernel)
theorem dX0_init_4 : decode cX0_init 4 = .ok (.aload_n 0, 1) := by decide +kernel
theorem dX0_init_5 : decode cX0_init 5 = .ok (.bipush 30, 2) := by decide +kernel
theorem dX0_init_7 : decode cX0_init 7 = .ok (.newarray .int, 2) := by decide +kernel
theorem dX0_init_9 : decode cX0_init 9 = .ok (.putfield 9, 3) := by decide +kernel
theorem q_277 : (Cond.fieldLink "NightfallVillage$Claims" 9 "NightfallVillage$Claims" "claimers" "[I") ∈ tw := tw_in (i := 277) (by decide +kernel) (by decide +kernel)
theorem dX0_init_12 : decode cX0_init 12 = .ok (.aload_n 0, 1) := by decide +kernel
theorem dX0_init_13 : decode cX0_init 13 = .ok (.bipush 30, 2) := by decide +kernel
theorem dX0_init_15 : decode cX0_init 15 = .ok (.newarray .int, 2) := by decide +kernel
theorem dX0_init_17 : decode cX0_init 17 = .ok (.putfield 15, 3) := by decide +kernel
theorem q_278 : (Cond.fieldLink "NightfallVillage$Claims" 15 "NightfallVillage$Claims" "subjects" "[I") ∈ tw := tw_in (i := 278) (by decide +kernel) (by decide +kernel)
theorem dX0_init_20 : decode cX0_init 20 = .ok (.aload_n 0, 1) := by decide +kernel
theorem dX0_init_21 : decode cX0_init 21 = .ok (.bipush 30, 2) := by decide +kernel
theorem dX0_init_23 : decode cX0_init 23 = .ok (.newarray .char, 2) := by decide +kernel
theorem q_80 : (Cond.arrayClass Jvm.ClassFile.FieldType.char) ∈ tw := tw_in (i := 80) (by decide +kernel) (by decide +kernel)
theorem dX0_init_25 : decode cX0_init 25 = .ok (.putfield 18, 3) := by decide +kernel
theorem q_279 : (Cond.fieldLink "NightfallVillage$Claims" 18 "NightfallVillage$Claims" "sides" "[C") ∈ tw := tw_in (i := 279) (by decide +kernel) (by decide +kernel)
theorem dX0_init_28 : decode cX0_init 28 = .ok (.return_, 1) := by decide +kernel
set_option maxHeartbeats 4000000 in
set_option maxRecDepth 100000 in
/-- Claims(): ends -/
theorem c_Claims_init (l : Launch) (hst : l.stackTraces = false) (tE : Nat) (adK adV : Nat → Nat) (dC : Nat → ClassId) (dI : Nat → Nat → Nat) (h0 : Nat) (sz : Nat) : Met l yX0_init (Cond.code yX0_init cX0_init 1 none :: tw) ({ frames := 1, cells := 3, slots := 90, locals := 12 }) (va_Pc [.ref h0] (pre tE adK adV (dC, dI) [(h0, .inr (0, [.null, .null, .null, .int 0]))] [] sz)) (va_Qv (fun (_ : Unit) => True) (fun (_ : Unit) (_ : State) => True) (va_A [(h0, .inr (0, [.null, .null, .null, .int 0]))] sz)) 3 90 (va_A [(h0, .inr (0, [.null, .null, .null, .int 0]))] sz) := by
  refine Met.ofW (cc := cX0_init) (maxL := 1) (ret := none) (by decide) rfl ?_
  intro p e s m args below meth c s₁ B hml hv
  obtain ⟨rfl, hsz, hP, hK, hD0, ham⟩ := hv
  have hx := B.exec
  have hb := B.bytes
  have hr := B.returns
  have hts := atoms_spec B.pre
  have hq : ∀ w ∈ tw, w.before _ s = true := fun w h => hts w (List.mem_cons_of_mem _ h)
  have hown : s.vm.findClass RX0 = some m.cls := findClass_of_methodNamed B.named
  have hlocks := B.notSynchronized
  have hin : meth.name = "<init>" := (name_of_methodNamed B.named B.method).1
  subst hsz
  have hD := hD0.self (sz := s.heap.size)
  generalize hAe : va_A [(h0, .inr (0, [.null, .null, .null, .int 0]))] s.heap.size = A at hD ham ⊢
  have hA : ∀ q : Nat, s.heap.size ≤ q → A q := fun q h => by rw [← hAe]; exact Or.inr h
  have hS : va_S A s.heap s.heap [] := va_S.rf
  have hP : va_P (dC, dI) cls [(h0, .inr (0, [.null, .null, .null, .int 0]))] s.heap := hP
  have hl := lv_entry ([.ref h0]) (n := 1) (Nat.le_of_ble_eq_true rfl)
  rw [lg_entry_eq]
  generalize (lg_sl ([.ref h0]) ++ List.replicate (1 - (lg_sl ([.ref h0])).length) Slot.unset).toArray = ls at hl ⊢
  have hl : lv_has ls 1 [(0, .ref h0)] := hl
  refine lv_aload_n hx hb dX0_init_0 rfl (lv_at hl 0 rfl) ?_
  refine W.objInit hx hb hown (hq _ q_276) (hq _ q_45) (hq _ q_46) rfl (by rw [hml]; exact hl.1) rfl dX0_init_1 (Nat.le_of_ble_eq_true rfl) (Nat.le_of_ble_eq_true rfl) ?_
  refine W.eq (g2 := F0 m 4 ls []) rfl ?_
  refine lv_aload_n hx hb dX0_init_4 rfl (lv_at hl 0 rfl) ?_
  refine lv_bipush (v := 30) hx hb dX0_init_5 (by decide) ?_
  refine va_newa (atype := .int) (a0 := (30, .inl (fun _ => 0))) hx hb (hq _ q_81) rfl hK hP hD hS hA (fun _ => rfl) (by decide) (by decide) (Nat.le_of_ble_eq_true rfl) (Nat.le_of_ble_eq_true rfl) (Nat.le_of_ble_eq_true rfl) dX0_init_7 (fun a_1 cA_2 H hK hP hD hS => ?_)
  have hP : va_P (dC, dI) cls [(h0, .inr (0, [.null, .null, .null, .int 0])), (a_1, .inl (cA_2, 30, .inl (fun _ => 0)))] H := hP
  have hD : va_D A [(h0, .inr (0, [.null, .null, .null, .int 0])), (a_1, .inl (cA_2, 30, .inl (fun _ => 0)))] := hD
  have hK : va_K (dC, dI) cls [(cA_2, .int)] s := hK
  refine W.widen (k := 1) (n := 30) (Nat.le_of_ble_eq_true rfl) (Nat.le_of_ble_eq_true rfl) ?_
  refine va_putF (D := (dC, dI)) (ci := 0) (v := .ref a_1) (ty := (.array .int)) (C := RX0) (T := TX0) (N := 4) hx hb hq i_X0 tyX0 tyX0_ok nmX0 hown hK hP hD hS 0 rfl rfl 0 (by decide) (hq _ q_277) (fun _ h9 => h9) rfl hin rfl (by decide +kernel) rfl rfl (Nat.le_of_ble_eq_true rfl) dX0_init_9 (fun H locs hP hD hS => ?_)
  have hP : va_P (dC, dI) cls [(h0, .inr (0, [.ref a_1, .null, .null, .int 0])), (a_1, .inl (cA_2, 30, .inl (fun _ => 0)))] H := hP
  have hD : va_D A [(h0, .inr (0, [.ref a_1, .null, .null, .int 0])), (a_1, .inl (cA_2, 30, .inl (fun _ => 0)))] := hD
  refine lv_aload_n hx hb dX0_init_12 rfl (lv_at hl 0 rfl) ?_
  refine lv_bipush (v := 30) hx hb dX0_init_13 (by decide) ?_
  refine va_newa (atype := .int) (a0 := (30, .inl (fun _ => 0))) hx hb (hq _ q_81) rfl hK hP hD hS hA (fun _ => rfl) (by decide) (by decide) (Nat.le_of_ble_eq_true rfl) (Nat.le_of_ble_eq_true rfl) (Nat.le_of_ble_eq_true rfl) dX0_init_15 (fun a_3 cA_4 H hK hP hD hS => ?_)
  have hP : va_P (dC, dI) cls [(h0, .inr (0, [.ref a_1, .null, .null, .int 0])), (a_1, .inl (cA_2, 30, .inl (fun _ => 0))), (a_3, .inl (cA_4, 30, .inl (fun _ => 0)))] H := hP
  have hD : va_D A [(h0, .inr (0, [.ref a_1, .null, .null, .int 0])), (a_1, .inl (cA_2, 30, .inl (fun _ => 0))), (a_3, .inl (cA_4, 30, .inl (fun _ => 0)))] := hD
  have hK : va_K (dC, dI) cls [(cA_2, .int), (cA_4, .int)] s := hK
  refine W.widen (k := 2) (n := 60) (Nat.le_of_ble_eq_true rfl) (Nat.le_of_ble_eq_true rfl) ?_
  refine va_putF (D := (dC, dI)) (ci := 0) (v := .ref a_3) (ty := (.array .int)) (C := RX0) (T := TX0) (N := 4) hx hb hq i_X0 tyX0 tyX0_ok nmX0 hown hK hP hD hS 0 rfl rfl 1 (by decide) (hq _ q_278) (fun _ h9 => h9) rfl hin rfl (by decide +kernel) rfl rfl (Nat.le_of_ble_eq_true rfl) dX0_init_17 (fun H locs hP hD hS => ?_)
  have hP : va_P (dC, dI) cls [(h0, .inr (0, [.ref a_1, .ref a_3, .null, .int 0])), (a_1, .inl (cA_2, 30, .inl (fun _ => 0))), (a_3, .inl (cA_4, 30, .inl (fun _ => 0)))] H := hP
  have hD : va_D A [(h0, .inr (0, [.ref a_1, .ref a_3, .null, .int 0])), (a_1, .inl (cA_2, 30, .inl (fun _ => 0))), (a_3, .inl (cA_4, 30, .inl (fun _ => 0)))] := hD
  refine lv_aload_n hx hb dX0_init_20 rfl (lv_at hl 0 rfl) ?_
  refine lv_bipush (v := 30) hx hb dX0_init_21 (by decide) ?_
  refine va_newa (atype := .char) (a0 := (30, .inl (fun _ => 0))) hx hb (hq _ q_80) rfl hK hP hD hS hA (fun _ => rfl) (by decide) (by decide) (Nat.le_of_ble_eq_true rfl) (Nat.le_of_ble_eq_true rfl) (Nat.le_of_ble_eq_true rfl) dX0_init_23 (fun a_5 cA_6 H hK hP hD hS => ?_)
  have hP : va_P (dC, dI) cls [(h0, .inr (0, [.ref a_1, .ref a_3, .null, .int 0])), (a_1, .inl (cA_2, 30, .inl (fun _ => 0))), (a_3, .inl (cA_4, 30, .inl (fun _ => 0))), (a_5, .inl (cA_6, 30, .inl (fun _ => 0)))] H := hP
  have hD : va_D A [(h0, .inr (0, [.ref a_1, .ref a_3, .null, .int 0])), (a_1, .inl (cA_2, 30, .inl (fun _ => 0))), (a_3, .inl (cA_4, 30, .inl (fun _ => 0))), (a_5, .inl (cA_6, 30, .inl (fun _ => 0)))] := hD
  have hK : va_K (dC, dI) cls [(cA_2, .int), (cA_4, .int), (cA_6, .char)] s := hK
  refine W.widen (k := 3) (n := 90) (Nat.le_of_ble_eq_true rfl) (Nat.le_of_ble_eq_true rfl) ?_
  refine va_putF (D := (dC, dI)) (ci := 0) (v := .ref a_5) (ty := (.array .char)) (C := RX0) (T := TX0) (N := 4) hx hb hq i_X0 tyX0 tyX0_ok nmX0 hown hK hP hD hS 0 rfl rfl 2 (by decide) (hq _ q_279) (fun _ h9 => h9) rfl hin rfl (by decide +kernel) rfl rfl (Nat.le_of_ble_eq_true rfl) dX0_init_25 (fun H locs hP hD hS => ?_)
  have hP : va_P (dC, dI) cls [(h0, .inr (0, [.ref a_1, .ref a_3, .ref a_5, .int 0])), (a_1, .inl (cA_2, 30, .inl (fun _ => 0))), (a_3, .inl (cA_4, 30, .inl (fun _ => 0))), (a_5, .inl (cA_6, 30, .inl (fun _ => 0)))] H := hP
  have hD : va_D A [(h0, .inr (0, [.ref a_1, .ref a_3, .ref a_5, .int 0])), (a_1, .inl (cA_2, 30, .inl (fun _ => 0))), (a_3, .inl (cA_4, 30, .inl (fun _ => 0))), (a_5, .inl (cA_6, 30, .inl (fun _ => 0)))] := hD
  refine W.widen (k := 3) (n := 90) (Nat.le_of_ble_eq_true rfl) (Nat.le_of_ble_eq_true rfl) ?_
  exact W.vret hx hb hr (fun t ht hW => ⟨⟨(), rfl, trivial, trivial⟩, hS.F ht⟩) hS.2.2 dX0_init_28
abbrev cX8_init : ByteArray := prog_10_method_1_code
def yX8_init : MethodName := ⟨RX8, "<init>", "()V"⟩
theorem dX8_init_0 : decode cX8_init 0 = .ok (.aload_n 0, 1) := by decide +kernel
theorem dX8_init_1 : decode cX8_init 1 = .ok (.invokespecial 3, 3) := by decide +kernel
theorem q_256 : (Cond.methodLink "NightfallVillage$Sights" 3 objectInit) ∈ tw := tw_in (i := 256) (by decide +kernel) (by decide +kernel)
theorem dX8_init_4 : decode cX8_init 4 = .ok (.aload_n 0, 1) := by decide +kernel
theorem dX8_init_5 : decode cX8_init 5 = .ok (.sipush 1792, 3) := by decide +kernel
theorem dX8_init_8 : decode cX8_init 8 = .ok (.newarray .char, 2) := by decide +kernel
theorem dX8_init_10 : decode cX8_init 10 = .ok (.putfield 9, 3) := by decide +kernel
theorem q_257 : (Cond.fieldLink "NightfallVillage$Sights" 9 "NightfallVillage$Sights" "tellings" "[C") ∈ tw := tw_in (i := 257) (by decide +kernel) (by decide +kernel)
theorem dX8_init_13 : decode cX8_init 13 = .ok (.aload_n 0, 1) := by decide +kernel
theorem dX8_init_14 : decode cX8_init 14 = .ok (.sipush 1792, 3) := by decide +kernel
theorem dX8_init_17 : decode cX8_init 17 = .ok (.newarray .int, 2) := by decide +kernel
theorem dX8_init_19 : decode cX8_init 19 = .ok (.putfield 15, 3) := by decide +kernel
theorem q_258 : (Cond.fieldLink "NightfallVillage$Sights" 15 "NightfallVillage$Sights" "shown" "[I") ∈ tw := tw_in (i := 258) (by decide +kernel) (by decide +kernel)
theorem dX8_init_22 : decode cX8_init 22 = .ok (.aload_n 0, 1) := by decide +kernel
theorem dX8_init_23 : decode cX8_init 23 = .ok (.bipush 98, 2) := by decide +kernel
theorem dX8_init_25 : decode cX8_init 25 = .ok (.newarray .int, 2) := by decide +kernel
theorem dX8_init_27 : decode cX8_init 27 = .ok (.putfield 19, 3) := by decide +kernel
theorem q_259 : (Cond.fieldLink "NightfallVillage$Sights" 19 "NightfallVillage$Sights" "livingAsTold" "[I") ∈ tw := tw_in (i := 259) (by decide +kernel) (by decide +kernel)
theorem dX8_init_30 : decode cX8_init 30 = .ok (.return_, 1) := by decide +kernel
set_option maxHeartbeats 4000000 in
set_option maxRecDepth 100000 in
/-- Sights(): ends -/
theorem c_Sights_init (l : Launch) (hst : l.stackTraces = false) (tE : Nat) (adK adV : Nat → Nat) (dC : Nat → ClassId) (dI : Nat → Nat → Nat) (h0 : Nat) (sz : Nat) : Met l yX8_init (Cond.code yX8_init cX8_init 1 none :: tw) ({ frames := 1, cells := 3, slots := 3682, locals := 12 }) (va_Pc [.ref h0] (pre tE adK adV (dC, dI) [(h0, .inr (8, [.null, .null, .null, .int 0]))] [] sz)) (va_Qv (fun (_ : Unit) => True) (fun (_ : Unit) (_ : State) => True) (va_A [(h0, .inr (8, [.null, .null, .null, .int 0]))] sz)) 3 3682 (va_A [(h0, .inr (8, [.null, .null, .null, .int 0]))] sz) := by
  refine Met.ofW (cc := cX8_init) (maxL := 1) (ret := none) (by decide) rfl ?_
  intro p e s m args below meth c s₁ B hml hv
  obtain ⟨rfl, hsz, hP, hK, hD0, ham⟩ := hv
  have hx := B.exec
  have hb := B.bytes
  have hr := B.returns
  have hts := atoms_spec B.pre
  have hq : ∀ w ∈ tw, w.before _ s = true := fun w h => hts w (List.mem_cons_of_mem _ h)
  have hown : s.vm.findClass RX8 = some m.cls := findClass_of_methodNamed B.named
  have hlocks := B.notSynchronized
  have hin : meth.name = "<init>" := (name_of_methodNamed B.named B.method).1
  subst hsz
  have hD := hD0.self (sz := s.heap.size)
  generalize hAe : va_A [(h0, .inr (8, [.null, .null, .null, .int 0]))] s.heap.size = A at hD ham ⊢
  have hA : ∀ q : Nat, s.heap.size ≤ q → A q := fun q h => by rw [← hAe]; exact Or.inr h
  have hS : va_S A s.heap s.heap [] := va_S.rf
  have hP : va_P (dC, dI) cls [(h0, .inr (8, [.null, .null, .null, .int 0]))] s.heap := hP
  have hl := lv_entry ([.ref h0]) (n := 1) (Nat.le_of_ble_eq_true rfl)
  rw [lg_entry_eq]
  generalize (lg_sl ([.ref h0]) ++ List.replicate (1 - (lg_sl ([.ref h0])).length) Slot.unset).toArray = ls at hl ⊢
  have hl : lv_has ls 1 [(0, .ref h0)] := hl
  refine lv_aload_n hx hb dX8_init_0 rfl (lv_at hl 0 rfl) ?_
  refine W.objInit hx hb hown (hq _ q_256) (hq _ q_45) (hq _ q_46) rfl (by rw [hml]; exact hl.1) rfl dX8_init_1 (Nat.le_of_ble_eq_true rfl) (Nat.le_of_ble_eq_true rfl) ?_
  refine W.eq (g2 := F0 m 4 ls []) rfl ?_
  refine lv_aload_n hx hb dX8_init_4 rfl (lv_at hl 0 rfl) ?_
  refine lv_sipush (v := 1792) hx hb dX8_init_5 (by decide) ?_
  refine va_newa (atype := .char) (a0 := (1792, .inl (fun _ => 0))) hx hb (hq _ q_80) rfl hK hP hD hS hA (fun _ => rfl) (by decide) (by decide) (Nat.le_of_ble_eq_true rfl) (Nat.le_of_ble_eq_true rfl) (Nat.le_of_ble_eq_true rfl) dX8_init_8 (fun a_1 cA_2 H hK hP hD hS => ?_)
  have hP : va_P (dC, dI) cls [(h0, .inr (8, [.null, .null, .null, .int 0])), (a_1, .inl (cA_2, 1792, .inl (fun _ => 0)))] H := hP
  have hD : va_D A [(h0, .inr (8, [.null, .null, .null, .int 0])), (a_1, .inl (cA_2, 1792, .inl (fun _ => 0)))] := hD
  have hK : va_K (dC, dI) cls [(cA_2, .char)] s := hK
  refine W.widen (k := 1) (n := 1792) (Nat.le_of_ble_eq_true rfl) (Nat.le_of_ble_eq_true rfl) ?_
  refine va_putF (D := (dC, dI)) (ci := 8) (v := .ref a_1) (ty := (.array .char)) (C := RX8) (T := TX8) (N := 4) hx hb hq i_X8 tyX8 tyX8_ok nmX8 hown hK hP hD hS 0 rfl rfl 0 (by decide) (hq _ q_257) (fun _ h9 => h9) rfl hin rfl (by decide +kernel) rfl rfl (Nat.le_of_ble_eq_true rfl) dX8_init_10 (fun H locs hP hD hS => ?_)
  have hP : va_P (dC, dI) cls [(h0, .inr (8, [.ref a_1, .null, .null, .int 0])), (a_1, .inl (cA_2, 1792, .inl (fun _ => 0)))] H := hP
  have hD : va_D A [(h0, .inr (8, [.ref a_1, .null, .null, .int 0])), (a_1, .inl (cA_2, 1792, .inl (fun _ => 0)))] := hD
  refine lv_aload_n hx hb dX8_init_13 rfl (lv_at hl 0 rfl) ?_
  refine lv_sipush (v := 1792) hx hb dX8_init_14 (by decide) ?_
  refine va_newa (atype := .int) (a0 := (1792, .inl (fun _ => 0))) hx hb (hq _ q_81) rfl hK hP hD hS hA (fun _ => rfl) (by decide) (by decide) (Nat.le_of_ble_eq_true rfl) (Nat.le_of_ble_eq_true rfl) (Nat.le_of_ble_eq_true rfl) dX8_init_17 (fun a_3 cA_4 H hK hP hD hS => ?_)
  have hP : va_P (dC, dI) cls [(h0, .inr (8, [.ref a_1, .null, .null, .int 0])), (a_1, .inl (cA_2, 1792, .inl (fun _ => 0))), (a_3, .inl (cA_4, 1792, .inl (fun _ => 0)))] H := hP
  have hD : va_D A [(h0, .inr (8, [.ref a_1, .null, .null, .int 0])), (a_1, .inl (cA_2, 1792, .inl (fun _ => 0))), (a_3, .inl (cA_4, 1792, .inl (fun _ => 0)))] := hD
  have hK : va_K (dC, dI) cls [(cA_2, .char), (cA_4, .int)] s := hK
  refine W.widen (k := 2) (n := 3584) (Nat.le_of_ble_eq_true rfl) (Nat.le_of_ble_eq_true rfl) ?_
  refine va_putF (D := (dC, dI)) (ci := 8) (v := .ref a_3) (ty := (.array .int)) (C := RX8) (T := TX8) (N := 4) hx hb hq i_X8 tyX8 tyX8_ok nmX8 hown hK hP hD hS 0 rfl rfl 1 (by decide) (hq _ q_258) (fun _ h9 => h9) rfl hin rfl (by decide +kernel) rfl rfl (Nat.le_of_ble_eq_true rfl) dX8_init_19 (fun H locs hP hD hS => ?_)
  have hP : va_P (dC, dI) cls [(h0, .inr (8, [.ref a_1, .ref a_3, .null, .int 0])), (a_1, .inl (cA_2, 1792, .inl (fun _ => 0))), (a_3, .inl (cA_4, 1792, .inl (fun _ => 0)))] H := hP
  have hD : va_D A [(h0, .inr (8, [.ref a_1, .ref a_3, .null, .int 0])), (a_1, .inl (cA_2, 1792, .inl (fun _ => 0))), (a_3, .inl (cA_4, 1792, .inl (fun _ => 0)))] := hD
  refine lv_aload_n hx hb dX8_init_22 rfl (lv_at hl 0 rfl) ?_
  refine lv_bipush (v := 98) hx hb dX8_init_23 (by decide) ?_
  refine va_newa (atype := .int) (a0 := (98, .inl (fun _ => 0))) hx hb (hq _ q_81) rfl hK hP hD hS hA (fun _ => rfl) (by decide) (by decide) (Nat.le_of_ble_eq_true rfl) (Nat.le_of_ble_eq_true rfl) (Nat.le_of_ble_eq_true rfl) dX8_init_25 (fun a_5 cA_6 H hK hP hD hS => ?_)
  have hP : va_P (dC, dI) cls [(h0, .inr (8, [.ref a_1, .ref a_3, .null, .int 0])), (a_1, .inl (cA_2, 1792, .inl (fun _ => 0))), (a_3, .inl (cA_4, 1792, .inl (fun _ => 0))), (a_5, .inl (cA_6, 98, .inl (fun _ => 0)))] H := hP
  have hD : va_D A [(h0, .inr (8, [.ref a_1, .ref a_3, .null, .int 0])), (a_1, .inl (cA_2, 1792, .inl (fun _ => 0))), (a_3, .inl (cA_4, 1792, .inl (fun _ => 0))), (a_5, .inl (cA_6, 98, .inl (fun _ => 0)))] := hD
  have hK : va_K (dC, dI) cls [(cA_2, .char), (cA_4, .int), (cA_6, .int)] s := hK
  refine W.widen (k := 3) (n := 3682) (Nat.le_of_ble_eq_true rfl) (Nat.le_of_ble_eq_true rfl) ?_
  refine va_putF (D := (dC, dI)) (ci := 8) (v := .ref a_5) (ty := (.array .int)) (C := RX8) (T := TX8) (N := 4) hx hb hq i_X8 tyX8 tyX8_ok nmX8 hown hK hP hD hS 0 rfl rfl 2 (by decide) (hq _ q_259) (fun _ h9 => h9) rfl hin rfl (by decide +kernel) rfl rfl (Nat.le_of_ble_eq_true rfl) dX8_init_27 (fun H locs hP hD hS => ?_)
  have hP : va_P (dC, dI) cls [(h0, .inr (8, [.ref a_1, .ref a_3, .ref a_5, .int 0])), (a_1, .inl (cA_2, 1792, .inl (fun _ => 0))), (a_3, .inl (cA_4, 1792, .inl (fun _ => 0))), (a_5, .inl (cA_6, 98, .inl (fun _ => 0)))] H := hP
  have hD : va_D A [(h0, .inr (8, [.ref a_1, .ref a_3, .ref a_5, .int 0])), (a_1, .inl (cA_2, 1792, .inl (fun _ => 0))), (a_3, .inl (cA_4, 1792, .inl (fun _ => 0))), (a_5, .inl (cA_6, 98, .inl (fun _ => 0)))] := hD
  refine W.widen (k := 3) (n := 3682) (Nat.le_of_ble_eq_true rfl) (Nat.le_of_ble_eq_true rfl) ?_
  exact W.vret hx hb hr (fun t ht hW => ⟨⟨(), rfl, trivial, trivial⟩, hS.F ht⟩) hS.2.2 dX8_init_30
abbrev cX1_init : ByteArray := prog_3_method_1_code
def yX1_init : MethodName := ⟨RX1, "<init>", "()V"⟩
theorem dX1_init_0 : decode cX1_init 0 = .ok (.aload_n 0, 1) := by decide +kernel
theorem dX1_init_1 : decode cX1_init 1 = .ok (.invokespecial 3, 3) := by decide +kernel
theorem q_200 : (Cond.methodLink "NightfallVillage$Day" 3 objectInit) ∈ tw := tw_in (i := 200) (by decide +kernel) (by decide +kernel)
theorem dX1_init_4 : decode cX1_init 4 = .ok (.aload_n 0, 1) := by decide +kernel
theorem dX1_init_5 : decode cX1_init 5 = .ok (.bipush 7, 2) := by decide +kernel
theorem dX1_init_7 : decode cX1_init 7 = .ok (.newarray .int, 2) := by decide +kernel
theorem dX1_init_9 : decode cX1_init 9 = .ok (.putfield 9, 3) := by decide +kernel
theorem q_201 : (Cond.fieldLink "NightfallVillage$Day" 9 "NightfallVillage$Day" "ballots" "[I") ∈ tw := tw_in (i := 201) (by decide +kernel) (by decide +kernel)
theorem dX1_init_12 : decode cX1_init 12 = .ok (.aload_n 0, 1) := by decide +kernel
theorem dX1_init_13 : decode cX1_init 13 = .ok (.bipush 7, 2) := by decide +kernel
theorem dX1_init_15 : decode cX1_init 15 = .ok (.newarray .int, 2) := by decide +kernel
theorem dX1_init_17 : decode cX1_init 17 = .ok (.putfield 15, 3) := by decide +kernel
theorem q_202 : (Cond.fieldLink "NightfallVillage$Day" 15 "NightfallVillage$Day" "ghostDays" "[I") ∈ tw := tw_in (i := 202) (by decide +kernel) (by decide +kernel)
theorem dX1_init_20 : decode cX1_init 20 = .ok (.return_, 1) := by decide +kernel
set_option maxHeartbeats 4000000 in
set_option maxRecDepth 100000 in
/-- Day(): ends -/
theorem c_Day_init (l : Launch) (hst : l.stackTraces = false) (tE : Nat) (adK adV : Nat → Nat) (dC : Nat → ClassId) (dI : Nat → Nat → Nat) (h0 : Nat) (sz : Nat) : Met l yX1_init (Cond.code yX1_init cX1_init 1 none :: tw) ({ frames := 1, cells := 2, slots := 14, locals := 12 }) (va_Pc [.ref h0] (pre tE adK adV (dC, dI) [(h0, .inr (1, [.null, .null]))] [] sz)) (va_Qv (fun (_ : Unit) => True) (fun (_ : Unit) (_ : State) => True) (va_A [(h0, .inr (1, [.null, .null]))] sz)) 2 14 (va_A [(h0, .inr (1, [.null, .null]))] sz) := by
  refine Met.ofW (cc := cX1_init) (maxL := 1) (ret := none) (by decide) rfl ?_
  intro p e s m args below meth c s₁ B hml hv
  obtain ⟨rfl, hsz, hP, hK, hD0, ham⟩ := hv
  have hx := B.exec
  have hb := B.bytes
  have hr := B.returns
  have hts := atoms_spec B.pre
  have hq : ∀ w ∈ tw, w.before _ s = true := fun w h => hts w (List.mem_cons_of_mem _ h)
  have hown : s.vm.findClass RX1 = some m.cls := findClass_of_methodNamed B.named
  have hlocks := B.notSynchronized
  have hin : meth.name = "<init>" := (name_of_methodNamed B.named B.method).1
  subst hsz
  have hD := hD0.self (sz := s.heap.size)
  generalize hAe : va_A [(h0, .inr (1, [.null, .null]))] s.heap.size = A at hD ham ⊢
  have hA : ∀ q : Nat, s.heap.size ≤ q → A q := fun q h => by rw [← hAe]; exact Or.inr h
  have hS : va_S A s.heap s.heap [] := va_S.rf
  have hP : va_P (dC, dI) cls [(h0, .inr (1, [.null, .null]))] s.heap := hP
  have hl := lv_entry ([.ref h0]) (n := 1) (Nat.le_of_ble_eq_true rfl)
  rw [lg_entry_eq]
  generalize (lg_sl ([.ref h0]) ++ List.replicate (1 - (lg_sl ([.ref h0])).length) Slot.unset).toArray = ls at hl ⊢
  have hl : lv_has ls 1 [(0, .ref h0)] := hl
  refine lv_aload_n hx hb dX1_init_0 rfl (lv_at hl 0 rfl) ?_
  refine W.objInit hx hb hown (hq _ q_200) (hq _ q_45) (hq _ q_46) rfl (by rw [hml]; exact hl.1) rfl dX1_init_1 (Nat.le_of_ble_eq_true rfl) (Nat.le_of_ble_eq_true rfl) ?_
  refine W.eq (g2 := F0 m 4 ls []) rfl ?_
  refine lv_aload_n hx hb dX1_init_4 rfl (lv_at hl 0 rfl) ?_
  refine lv_bipush (v := 7) hx hb dX1_init_5 (by decide) ?_
  refine va_newa (atype := .int) (a0 := (7, .inl (fun _ => 0))) hx hb (hq _ q_81) rfl hK hP hD hS hA (fun _ => rfl) (by decide) (by decide) (Nat.le_of_ble_eq_true rfl) (Nat.le_of_ble_eq_true rfl) (Nat.le_of_ble_eq_true rfl) dX1_init_7 (fun a_1 cA_2 H hK hP hD hS => ?_)
  have hP : va_P (dC, dI) cls [(h0, .inr (1, [.null, .null])), (a_1, .inl (cA_2, 7, .inl (fun _ => 0)))] H := hP
  have hD : va_D A [(h0, .inr (1, [.null, .null])), (a_1, .inl (cA_2, 7, .inl (fun _ => 0)))] := hD
  have hK : va_K (dC, dI) cls [(cA_2, .int)] s := hK
  refine W.widen (k := 1) (n := 7) (Nat.le_of_ble_eq_true rfl) (Nat.le_of_ble_eq_true rfl) ?_
  refine va_putF (D := (dC, dI)) (ci := 1) (v := .ref a_1) (ty := (.array .int)) (C := RX1) (T := TX1) (N := 2) hx hb hq i_X1 tyX1 tyX1_ok nmX1 hown hK hP hD hS 0 rfl rfl 0 (by decide) (hq _ q_201) (fun _ h9 => h9) rfl hin rfl (by decide +kernel) rfl rfl (Nat.le_of_ble_eq_true rfl) dX1_init_9 (fun H locs hP hD hS => ?_)
  have hP : va_P (dC, dI) cls [(h0, .inr (1, [.ref a_1, .null])), (a_1, .inl (cA_2, 7, .inl (fun _ => 0)))] H := hP
  have hD : va_D A [(h0, .inr (1, [.ref a_1, .null])), (a_1, .inl (cA_2, 7, .inl (fun _ => 0)))] := hD
  refine lv_aload_n hx hb dX1_init_12 rfl (lv_at hl 0 rfl) ?_
  refine lv_bipush (v := 7) hx hb dX1_init_13 (by decide) ?_
  refine va_newa (atype := .int) (a0 := (7, .inl (fun _ => 0))) hx hb (hq _ q_81) rfl hK hP hD hS hA (fun _ => rfl) (by decide) (by decide) (Nat.le_of_ble_eq_true rfl) (Nat.le_of_ble_eq_true rfl) (Nat.le_of_ble_eq_true rfl) dX1_init_15 (fun a_3 cA_4 H hK hP hD hS => ?_)
  have hP : va_P (dC, dI) cls [(h0, .inr (1, [.ref a_1, .null])), (a_1, .inl (cA_2, 7, .inl (fun _ => 0))), (a_3, .inl (cA_4, 7, .inl (fun _ => 0)))] H := hP
  have hD : va_D A [(h0, .inr (1, [.ref a_1, .null])), (a_1, .inl (cA_2, 7, .inl (fun _ => 0))), (a_3, .inl (cA_4, 7, .inl (fun _ => 0)))] := hD
  have hK : va_K (dC, dI) cls [(cA_2, .int), (cA_4, .int)] s := hK
  refine W.widen (k := 2) (n := 14) (Nat.le_of_ble_eq_true rfl) (Nat.le_of_ble_eq_true rfl) ?_
  refine va_putF (D := (dC, dI)) (ci := 1) (v := .ref a_3) (ty := (.array .int)) (C := RX1) (T := TX1) (N := 2) hx hb hq i_X1 tyX1 tyX1_ok nmX1 hown hK hP hD hS 0 rfl rfl 1 (by decide) (hq _ q_202) (fun _ h9 => h9) rfl hin rfl (by decide +kernel) rfl rfl (Nat.le_of_ble_eq_true rfl) dX1_init_17 (fun H locs hP hD hS => ?_)
  have hP : va_P (dC, dI) cls [(h0, .inr (1, [.ref a_1, .ref a_3])), (a_1, .inl (cA_2, 7, .inl (fun _ => 0))), (a_3, .inl (cA_4, 7, .inl (fun _ => 0)))] H := hP
  have hD : va_D A [(h0, .inr (1, [.ref a_1, .ref a_3])), (a_1, .inl (cA_2, 7, .inl (fun _ => 0))), (a_3, .inl (cA_4, 7, .inl (fun _ => 0)))] := hD
  refine W.widen (k := 2) (n := 14) (Nat.le_of_ble_eq_true rfl) (Nat.le_of_ble_eq_true rfl) ?_
  exact W.vret hx hb hr (fun t ht hW => ⟨⟨(), rfl, trivial, trivial⟩, hS.F ht⟩) hS.2.2 dX1_init_20
abbrev cX6_init : ByteArray := prog_8_method_1_code
def yX6_init : MethodName := ⟨RX6, "<init>", "()V"⟩
theorem dX6_init_0 : decode cX6_init 0 = .ok (.aload_n 0, 1) := by decide +kernel
theorem dX6_init_1 : decode cX6_init 1 = .ok (.invokespecial 3, 3) := by decide +kernel
theorem q_158 : (Cond.methodLink "NightfallVillage$Night" 3 objectInit) ∈ tw := tw_in (i := 158) (by decide +kernel) (by decide +kernel)
theorem dX6_init_4 : decode cX6_init 4 = .ok (.aload_n 0, 1) := by decide +kernel
theorem dX6_init_5 : decode cX6_init 5 = .ok (.bipush 7, 2) := by decide +kernel
theorem dX6_init_7 : decode cX6_init 7 = .ok (.newarray .int, 2) := by decide +kernel
theorem dX6_init_9 : decode cX6_init 9 = .ok (.putfield 9, 3) := by decide +kernel
theorem q_159 : (Cond.fieldLink "NightfallVillage$Night" 9 "NightfallVillage$Night" "targets" "[I") ∈ tw := tw_in (i := 159) (by decide +kernel) (by decide +kernel)
theorem dX6_init_12 : decode cX6_init 12 = .ok (.aload_n 0, 1) := by decide +kernel
theorem dX6_init_13 : decode cX6_init 13 = .ok (.bipush 7, 2) := by decide +kernel
theorem dX6_init_15 : decode cX6_init 15 = .ok (.newarray .int, 2) := by decide +kernel
theorem dX6_init_17 : decode cX6_init 17 = .ok (.putfield 15, 3) := by decide +kernel
theorem q_160 : (Cond.fieldLink "NightfallVillage$Night" 15 "NightfallVillage$Night" "aims" "[I") ∈ tw := tw_in (i := 160) (by decide +kernel) (by decide +kernel)
theorem dX6_init_20 : decode cX6_init 20 = .ok (.aload_n 0, 1) := by decide +kernel
theorem dX6_init_21 : decode cX6_init 21 = .ok (.bipush 7, 2) := by decide +kernel
theorem dX6_init_23 : decode cX6_init 23 = .ok (.newarray .char, 2) := by decide +kernel
theorem dX6_init_25 : decode cX6_init 25 = .ok (.putfield 18, 3) := by decide +kernel
theorem q_162 : (Cond.fieldLink "NightfallVillage$Night" 18 "NightfallVillage$Night" "acts" "[C") ∈ tw := tw_in (i := 162) (by decide +kernel) (by decide +kernel)
theorem dX6_init_28 : decode cX6_init 28 = .ok (.aload_n 0, 1) := by decide +kernel
theorem dX6_init_29 : decode cX6_init 29 = .ok (.bipush 7, 2) := by decide +kernel
theorem dX6_init_31 : decode cX6_init 31 = .ok (.newarray .int, 2) := by decide +kernel
theorem dX6_init_33 : decode cX6_init 33 = .ok (.putfield 22, 3) := by decide +kernel
theorem q_163 : (Cond.fieldLink "NightfallVillage$Night" 22 "NightfallVillage$Night" "blocks" "[I") ∈ tw := tw_in (i := 163) (by decide +kernel) (by decide +kernel)
theorem dX6_init_36 : decode cX6_init 36 = .ok (.aload_n 0, 1) := by decide +kernel
theorem dX6_init_37 : decode cX6_init 37 = .ok (.bipush 7, 2) := by decide +kernel
theorem dX6_init_39 : decode cX6_init 39 = .ok (.newarray .boolean, 2) := by decide +kernel
theorem q_82 : (Cond.arrayClass Jvm.ClassFile.FieldType.boolean) ∈ tw := tw_in (i := 82) (by decide +kernel) (by decide +kernel)
theorem dX6_init_41 : decode cX6_init 41 = .ok (.putfield 25, 3) := by decide +kernel
theorem q_164 : (Cond.fieldLink "NightfallVillage$Night" 25 "NightfallVillage$Night" "blocked" "[Z") ∈ tw := tw_in (i := 164) (by decide +kernel) (by decide +kernel)
theorem dX6_init_44 : decode cX6_init 44 = .ok (.aload_n 0, 1) := by decide +kernel
theorem dX6_init_45 : decode cX6_init 45 = .ok (.bipush 7, 2) := by decide +kernel
theorem dX6_init_47 : decode cX6_init 47 = .ok (.newarray .boolean, 2) := by decide +kernel
theorem dX6_init_49 : decode cX6_init 49 = .ok (.putfield 29, 3) := by decide +kernel
theorem q_165 : (Cond.fieldLink "NightfallVillage$Night" 29 "NightfallVillage$Night" "drunk" "[Z") ∈ tw := tw_in (i := 165) (by decide +kernel) (by decide +kernel)
theorem dX6_init_52 : decode cX6_init 52 = .ok (.aload_n 0, 1) := by decide +kernel
theorem dX6_init_53 : decode cX6_init 53 = .ok (.bipush 7, 2) := by decide +kernel
theorem dX6_init_55 : decode cX6_init 55 = .ok (.newarray .boolean, 2) := by decide +kernel
theorem dX6_init_57 : decode cX6_init 57 = .ok (.putfield 32, 3) := by decide +kernel
theorem q_166 : (Cond.fieldLink "NightfallVillage$Night" 32 "NightfallVillage$Night" "guarded" "[Z") ∈ tw := tw_in (i := 166) (by decide +kernel) (by decide +kernel)
theorem dX6_init_60 : decode cX6_init 60 = .ok (.aload_n 0, 1) := by decide +kernel
theorem dX6_init_61 : decode cX6_init 61 = .ok (.bipush 7, 2) := by decide +kernel
theorem dX6_init_63 : decode cX6_init 63 = .ok (.newarray .boolean, 2) := by decide +kernel
theorem dX6_init_65 : decode cX6_init 65 = .ok (.putfield 35, 3) := by decide +kernel
theorem q_167 : (Cond.fieldLink "NightfallVillage$Night" 35 "NightfallVillage$Night" "attacked" "[Z") ∈ tw := tw_in (i := 167) (by decide +kernel) (by decide +kernel)
theorem dX6_init_68 : decode cX6_init 68 = .ok (.aload_n 0, 1) := by decide +kernel
theorem dX6_init_69 : decode cX6_init 69 = .ok (.bipush 7, 2) := by decide +kernel
theorem dX6_init_71 : decode cX6_init 71 = .ok (.newarray .boolean, 2) := by decide +kernel
theorem dX6_init_73 : decode cX6_init 73 = .ok (.putfield 38, 3) := by decide +kernel
theorem q_168 : (Cond.fieldLink "NightfallVillage$Night" 38 "NightfallVillage$Night" "silenced" "[Z") ∈ tw := tw_in (i := 168) (by decide +kernel) (by decide +kernel)
theorem dX6_init_76 : decode cX6_init 76 = .ok (.aload_n 0, 1) := by decide +kernel
theorem dX6_init_77 : decode cX6_init 77 = .ok (.bipush 7, 2) := by decide +kernel
theorem dX6_init_79 : decode cX6_init 79 = .ok (.newarray .boolean, 2) := by decide +kernel
theorem dX6_init_81 : decode cX6_init 81 = .ok (.putfield 41, 3) := by decide +kernel
theorem q_169 : (Cond.fieldLink "NightfallVillage$Night" 41 "NightfallVillage$Night" "done" "[Z") ∈ tw := tw_in (i := 169) (by decide +kernel) (by decide +kernel)
theorem dX6_init_84 : decode cX6_init 84 = .ok (.aload_n 0, 1) := by decide +kernel
theorem dX6_init_85 : decode cX6_init 85 = .ok (.bipush 7, 2) := by decide +kernel
theorem dX6_init_87 : decode cX6_init 87 = .ok (.newarray .char, 2) := by decide +kernel
theorem dX6_init_89 : decode cX6_init 89 = .ok (.putfield 44, 3) := by decide +kernel
theorem q_170 : (Cond.fieldLink "NightfallVillage$Night" 44 "NightfallVillage$Night" "tellings" "[C") ∈ tw := tw_in (i := 170) (by decide +kernel) (by decide +kernel)
theorem dX6_init_92 : decode cX6_init 92 = .ok (.return_, 1) := by decide +kernel
set_option maxHeartbeats 4000000 in
set_option maxRecDepth 100000 in
/-- Night(): ends -/
theorem c_Night_init (l : Launch) (hst : l.stackTraces = false) (tE : Nat) (adK adV : Nat → Nat) (dC : Nat → ClassId) (dI : Nat → Nat → Nat) (h0 : Nat) (sz : Nat) : Met l yX6_init (Cond.code yX6_init cX6_init 1 none :: tw) ({ frames := 1, cells := 11, slots := 77, locals := 12 }) (va_Pc [.ref h0] (pre tE adK adV (dC, dI) [(h0, .inr (6, [.null, .null, .null, .null, .null, .null, .null, .null, .null, .null, .null]))] [] sz)) (va_Qv (fun (_ : Unit) => True) (fun (_ : Unit) (_ : State) => True) (va_A [(h0, .inr (6, [.null, .null, .null, .null, .null, .null, .null, .null, .null, .null, .null]))] sz)) 11 77 (va_A [(h0, .inr (6, [.null, .null, .null, .null, .null, .null, .null, .null, .null, .null, .null]))] sz) := by
  refine Met.ofW (cc := cX6_init) (maxL := 1) (ret := none) (by decide) rfl ?_
  intro p e s m args below meth c s₁ B hml hv
  obtain ⟨rfl, hsz, hP, hK, hD0, ham⟩ := hv
  have hx := B.exec
  have hb := B.bytes
  have hr := B.returns
  have hts := atoms_spec B.pre
  have hq : ∀ w ∈ tw, w.before _ s = true := fun w h => hts w (List.mem_cons_of_mem _ h)
  have hown : s.vm.findClass RX6 = some m.cls := findClass_of_methodNamed B.named
  have hlocks := B.notSynchronized
  have hin : meth.name = "<init>" := (name_of_methodNamed B.named B.method).1
  subst hsz
  have hD := hD0.self (sz := s.heap.size)
  generalize hAe : va_A [(h0, .inr (6, [.null, .null, .null, .null, .null, .null, .null, .null, .null, .null, .null]))] s.heap.size = A at hD ham ⊢
  have hA : ∀ q : Nat, s.heap.size ≤ q → A q := fun q h => by rw [← hAe]; exact Or.inr h
  have hS : va_S A s.heap s.heap [] := va_S.rf
  have hP : va_P (dC, dI) cls [(h0, .inr (6, [.null, .null, .null, .null, .null, .null, .null, .null, .null, .null, .null]))] s.heap := hP
  have hl := lv_entry ([.ref h0]) (n := 1) (Nat.le_of_ble_eq_true rfl)
  rw [lg_entry_eq]
  generalize (lg_sl ([.ref h0]) ++ List.replicate (1 - (lg_sl ([.ref h0])).length) Slot.unset).toArray = ls at hl ⊢
  have hl : lv_has ls 1 [(0, .ref h0)] := hl
  refine lv_aload_n hx hb dX6_init_0 rfl (lv_at hl 0 rfl) ?_
  refine W.objInit hx hb hown (hq _ q_158) (hq _ q_45) (hq _ q_46) rfl (by rw [hml]; exact hl.1) rfl dX6_init_1 (Nat.le_of_ble_eq_true rfl) (Nat.le_of_ble_eq_true rfl) ?_
  refine W.eq (g2 := F0 m 4 ls []) rfl ?_
  refine lv_aload_n hx hb dX6_init_4 rfl (lv_at hl 0 rfl) ?_
  refine lv_bipush (v := 7) hx hb dX6_init_5 (by decide) ?_
  refine va_newa (atype := .int) (a0 := (7, .inl (fun _ => 0))) hx hb (hq _ q_81) rfl hK hP hD hS hA (fun _ => rfl) (by decide) (by decide) (Nat.le_of_ble_eq_true rfl) (Nat.le_of_ble_eq_true rfl) (Nat.le_of_ble_eq_true rfl) dX6_init_7 (fun a_1 cA_2 H hK hP hD hS => ?_)
  have hP : va_P (dC, dI) cls [(h0, .inr (6, [.null, .null, .null, .null, .null, .null, .null, .null, .null, .null, .null])), (a_1, .inl (cA_2, 7, .inl (fun _ => 0)))] H := hP
  have hD : va_D A [(h0, .inr (6, [.null, .null, .null, .null, .null, .null, .null, .null, .null, .null, .null])), (a_1, .inl (cA_2, 7, .inl (fun _ => 0)))] := hD
  have hK : va_K (dC, dI) cls [(cA_2, .int)] s := hK
  refine W.widen (k := 1) (n := 7) (Nat.le_of_ble_eq_true rfl) (Nat.le_of_ble_eq_true rfl) ?_
  refine va_putF (D := (dC, dI)) (ci := 6) (v := .ref a_1) (ty := (.array .int)) (C := RX6) (T := TX6) (N := 11) hx hb hq i_X6 tyX6 tyX6_ok nmX6 hown hK hP hD hS 0 rfl rfl 0 (by decide) (hq _ q_159) (fun _ h9 => h9) rfl hin rfl (by decide +kernel) rfl rfl (Nat.le_of_ble_eq_true rfl) dX6_init_9 (fun H locs hP hD hS => ?_)
  have hP : va_P (dC, dI) cls [(h0, .inr (6, [.ref a_1, .null, .null, .null, .null, .null, .null, .null, .null, .null, .null])), (a_1, .inl (cA_2, 7, .inl (fun _ => 0)))] H := hP
  have hD : va_D A [(h0, .inr (6, [.ref a_1, .null, .null, .null, .null, .null, .null, .null, .null, .null, .null])), (a_1, .inl (cA_2, 7, .inl (fun _ => 0)))] := hD
  refine lv_aload_n hx hb dX6_init_12 rfl (lv_at hl 0 rfl) ?_
  refine lv_bipush (v := 7) hx hb dX6_init_13 (by decide) ?_
  refine va_newa (atype := .int) (a0 := (7, .inl (fun _ => 0))) hx hb (hq _ q_81) rfl hK hP hD hS hA (fun _ => rfl) (by decide) (by decide) (Nat.le_of_ble_eq_true rfl) (Nat.le_of_ble_eq_true rfl) (Nat.le_of_ble_eq_true rfl) dX6_init_15 (fun a_3 cA_4 H hK hP hD hS => ?_)
  have hP : va_P (dC, dI) cls [(h0, .inr (6, [.ref a_1, .null, .null, .null, .null, .null, .null, .null, .null, .null, .null])), (a_1, .inl (cA_2, 7, .inl (fun _ => 0))), (a_3, .inl (cA_4, 7, .inl (fun _ => 0)))] H := hP
  have hD : va_D A [(h0, .inr (6, [.ref a_1, .null, .null, .null, .null, .null, .null, .null, .null, .null, .null])), (a_1, .inl (cA_2, 7, .inl (fun _ => 0))), (a_3, .inl (cA_4, 7, .inl (fun _ => 0)))] := hD
  have hK : va_K (dC, dI) cls [(cA_2, .int), (cA_4, .int)] s := hK
  refine W.widen (k := 2) (n := 14) (Nat.le_of_ble_eq_true rfl) (Nat.le_of_ble_eq_true rfl) ?_
  refine va_putF (D := (dC, dI)) (ci := 6) (v := .ref a_3) (ty := (.array .int)) (C := RX6) (T := TX6) (N := 11) hx hb hq i_X6 tyX6 tyX6_ok nmX6 hown hK hP hD hS 0 rfl rfl 1 (by decide) (hq _ q_160) (fun _ h9 => h9) rfl hin rfl (by decide +kernel) rfl rfl (Nat.le_of_ble_eq_true rfl) dX6_init_17 (fun H locs hP hD hS => ?_)
  have hP : va_P (dC, dI) cls [(h0, .inr (6, [.ref a_1, .ref a_3, .null, .null, .null, .null, .null, .null, .null, .null, .null])), (a_1, .inl (cA_2, 7, .inl (fun _ => 0))), (a_3, .inl (cA_4, 7, .inl (fun _ => 0)))] H := hP
  have hD : va_D A [(h0, .inr (6, [.ref a_1, .ref a_3, .null, .null, .null, .null, .null, .null, .null, .null, .null])), (a_1, .inl (cA_2, 7, .inl (fun _ => 0))), (a_3, .inl (cA_4, 7, .inl (fun _ => 0)))] := hD
  refine lv_aload_n hx hb dX6_init_20 rfl (lv_at hl 0 rfl) ?_
  refine lv_bipush (v := 7) hx hb dX6_init_21 (by decide) ?_
  refine va_newa (atype := .char) (a0 := (7, .inl (fun _ => 0))) hx hb (hq _ q_80) rfl hK hP hD hS hA (fun _ => rfl) (by decide) (by decide) (Nat.le_of_ble_eq_true rfl) (Nat.le_of_ble_eq_true rfl) (Nat.le_of_ble_eq_true rfl) dX6_init_23 (fun a_5 cA_6 H hK hP hD hS => ?_)
  have hP : va_P (dC, dI) cls [(h0, .inr (6, [.ref a_1, .ref a_3, .null, .null, .null, .null, .null, .null, .null, .null, .null])), (a_1, .inl (cA_2, 7, .inl (fun _ => 0))), (a_3, .inl (cA_4, 7, .inl (fun _ => 0))), (a_5, .inl (cA_6, 7, .inl (fun _ => 0)))] H := hP
  have hD : va_D A [(h0, .inr (6, [.ref a_1, .ref a_3, .null, .null, .null, .null, .null, .null, .null, .null, .null])), (a_1, .inl (cA_2, 7, .inl (fun _ => 0))), (a_3, .inl (cA_4, 7, .inl (fun _ => 0))), (a_5, .inl (cA_6, 7, .inl (fun _ => 0)))] := hD
  have hK : va_K (dC, dI) cls [(cA_2, .int), (cA_4, .int), (cA_6, .char)] s := hK
  refine W.widen (k := 3) (n := 21) (Nat.le_of_ble_eq_true rfl) (Nat.le_of_ble_eq_true rfl) ?_
  refine va_putF (D := (dC, dI)) (ci := 6) (v := .ref a_5) (ty := (.array .char)) (C := RX6) (T := TX6) (N := 11) hx hb hq i_X6 tyX6 tyX6_ok nmX6 hown hK hP hD hS 0 rfl rfl 2 (by decide) (hq _ q_162) (fun _ h9 => h9) rfl hin rfl (by decide +kernel) rfl rfl (Nat.le_of_ble_eq_true rfl) dX6_init_25 (fun H locs hP hD hS => ?_)
  have hP : va_P (dC, dI) cls [(h0, .inr (6, [.ref a_1, .ref a_3, .ref a_5, .null, .null, .null, .null, .null, .null, .null, .null])), (a_1, .inl (cA_2, 7, .inl (fun _ => 0))), (a_3, .inl (cA_4, 7, .inl (fun _ => 0))), (a_5, .inl (cA_6, 7, .inl (fun _ => 0)))] H := hP
  have hD : va_D A [(h0, .inr (6, [.ref a_1, .ref a_3, .ref a_5, .null, .null, .null, .null, .null, .null, .null, .null])), (a_1, .inl (cA_2, 7, .inl (fun _ => 0))), (a_3, .inl (cA_4, 7, .inl (fun _ => 0))), (a_5, .inl (cA_6, 7, .inl (fun _ => 0)))] := hD
  refine lv_aload_n hx hb dX6_init_28 rfl (lv_at hl 0 rfl) ?_
  refine lv_bipush (v := 7) hx hb dX6_init_29 (by decide) ?_
  refine va_newa (atype := .int) (a0 := (7, .inl (fun _ => 0))) hx hb (hq _ q_81) rfl hK hP hD hS hA (fun _ => rfl) (by decide) (by decide) (Nat.le_of_ble_eq_true rfl) (Nat.le_of_ble_eq_true rfl) (Nat.le_of_ble_eq_true rfl) dX6_init_31 (fun a_7 cA_8 H hK hP hD hS => ?_)
  have hP : va_P (dC, dI) cls [(h0, .inr (6, [.ref a_1, .ref a_3, .ref a_5, .null, .null, .null, .null, .null, .null, .null, .null])), (a_1, .inl (cA_2, 7, .inl (fun _ => 0))), (a_3, .inl (cA_4, 7, .inl (fun _ => 0))), (a_5, .inl (cA_6, 7, .inl (fun _ => 0))), (a_7, .inl (cA_8, 7, .inl (fun _ => 0)))] H := hP
  have hD : va_D A [(h0, .inr (6, [.ref a_1, .ref a_3, .ref a_5, .null, .null, .null, .null, .null, .null, .null, .null])), (a_1, .inl (cA_2, 7, .inl (fun _ => 0))), (a_3, .inl (cA_4, 7, .inl (fun _ => 0))), (a_5, .inl (cA_6, 7, .inl (fun _ => 0))), (a_7, .inl (cA_8, 7, .inl (fun _ => 0)))] := hD
  have hK : va_K (dC, dI) cls [(cA_2, .int), (cA_4, .int), (cA_6, .char), (cA_8, .int)] s := hK
  refine W.widen (k := 4) (n := 28) (Nat.le_of_ble_eq_true rfl) (Nat.le_of_ble_eq_true rfl) ?_
  refine va_putF (D := (dC, dI)) (ci := 6) (v := .ref a_7) (ty := (.array .int)) (C := RX6) (T := TX6) (N := 11) hx hb hq i_X6 tyX6 tyX6_ok nmX6 hown hK hP hD hS 0 rfl rfl 3 (by decide) (hq _ q_163) (fun _ h9 => h9) rfl hin rfl (by decide +kernel) rfl rfl (Nat.le_of_ble_eq_true rfl) dX6_init_33 (fun H locs hP hD hS => ?_)
  have hP : va_P (dC, dI) cls [(h0, .inr (6, [.ref a_1, .ref a_3, .ref a_5, .ref a_7, .null, .null, .null, .null, .null, .null, .null])), (a_1, .inl (cA_2, 7, .inl (fun _ => 0))), (a_3, .inl (cA_4, 7, .inl (fun _ => 0))), (a_5, .inl (cA_6, 7, .inl (fun _ => 0))), (a_7, .inl (cA_8, 7, .inl (fun _ => 0)))] H := hP
  have hD : va_D A [(h0, .inr (6, [.ref a_1, .ref a_3, .ref a_5, .ref a_7, .null, .null, .null, .null, .null, .null, .null])), (a_1, .inl (cA_2, 7, .inl (fun _ => 0))), (a_3, .inl (cA_4, 7, .inl (fun _ => 0))), (a_5, .inl (cA_6, 7, .inl (fun _ => 0))), (a_7, .inl (cA_8, 7, .inl (fun _ => 0)))] := hD
  refine lv_aload_n hx hb dX6_init_36 rfl (lv_at hl 0 rfl) ?_
  refine lv_bipush (v := 7) hx hb dX6_init_37 (by decide) ?_
  refine va_newa (atype := .boolean) (a0 := (7, .inl (fun _ => 0))) hx hb (hq _ q_82) rfl hK hP hD hS hA (fun _ => rfl) (by decide) (by decide) (Nat.le_of_ble_eq_true rfl) (Nat.le_of_ble_eq_true rfl) (Nat.le_of_ble_eq_true rfl) dX6_init_39 (fun a_9 cA_10 H hK hP hD hS => ?_)
  have hP : va_P (dC, dI) cls [(h0, .inr (6, [.ref a_1, .ref a_3, .ref a_5, .ref a_7, .null, .null, .null, .null, .null, .null, .null])), (a_1, .inl (cA_2, 7, .inl (fun _ => 0))), (a_3, .inl (cA_4, 7, .inl (fun _ => 0))), (a_5, .inl (cA_6, 7, .inl (fun _ => 0))), (a_7, .inl (cA_8, 7, .inl (fun _ => 0))), (a_9, .inl (cA_10, 7, .inl (fun _ => 0)))] H := hP
  have hD : va_D A [(h0, .inr (6, [.ref a_1, .ref a_3, .ref a_5, .ref a_7, .null, .null, .null, .null, .null, .null, .null])), (a_1, .inl (cA_2, 7, .inl (fun _ => 0))), (a_3, .inl (cA_4, 7, .inl (fun _ => 0))), (a_5, .inl (cA_6, 7, .inl (fun _ => 0))), (a_7, .inl (cA_8, 7, .inl (fun _ => 0))), (a_9, .inl (cA_10, 7, .inl (fun _ => 0)))] := hD
  have hK : va_K (dC, dI) cls [(cA_2, .int), (cA_4, .int), (cA_6, .char), (cA_8, .int), (cA_10, .boolean)] s := hK
  refine W.widen (k := 5) (n := 35) (Nat.le_of_ble_eq_true rfl) (Nat.le_of_ble_eq_true rfl) ?_
  refine va_putF (D := (dC, dI)) (ci := 6) (v := .ref a_9) (ty := (.array .boolean)) (C := RX6) (T := TX6) (N := 11) hx hb hq i_X6 tyX6 tyX6_ok nmX6 hown hK hP hD hS 0 rfl rfl 4 (by decide) (hq _ q_164) (fun _ h9 => h9) rfl hin rfl (by decide +kernel) rfl rfl (Nat.le_of_ble_eq_true rfl) dX6_init_41 (fun H locs hP hD hS => ?_)
  have hP : va_P (dC, dI) cls [(h0, .inr (6, [.ref a_1, .ref a_3, .ref a_5, .ref a_7, .ref a_9, .null, .null, .null, .null, .null, .null])), (a_1, .inl (cA_2, 7, .inl (fun _ => 0))), (a_3, .inl (cA_4, 7, .inl (fun _ => 0))), (a_5, .inl (cA_6, 7, .inl (fun _ => 0))), (a_7, .inl (cA_8, 7, .inl (fun _ => 0))), (a_9, .inl (cA_10, 7, .inl (fun _ => 0)))] H := hP
  have hD : va_D A [(h0, .inr (6, [.ref a_1, .ref a_3, .ref a_5, .ref a_7, .ref a_9, .null, .null, .null, .null, .null, .null])), (a_1, .inl (cA_2, 7, .inl (fun _ => 0))), (a_3, .inl (cA_4, 7, .inl (fun _ => 0))), (a_5, .inl (cA_6, 7, .inl (fun _ => 0))), (a_7, .inl (cA_8, 7, .inl (fun _ => 0))), (a_9, .inl (cA_10, 7, .inl (fun _ => 0)))] := hD
  refine lv_aload_n hx hb dX6_init_44 rfl (lv_at hl 0 rfl) ?_
  refine lv_bipush (v := 7) hx hb dX6_init_45 (by decide) ?_
  refine va_newa (atype := .boolean) (a0 := (7, .inl (fun _ => 0))) hx hb (hq _ q_82) rfl hK hP hD hS hA (fun _ => rfl) (by decide) (by decide) (Nat.le_of_ble_eq_true rfl) (Nat.le_of_ble_eq_true rfl) (Nat.le_of_ble_eq_true rfl) dX6_init_47 (fun a_11 cA_12 H hK hP hD hS => ?_)
  have hP : va_P (dC, dI) cls [(h0, .inr (6, [.ref a_1, .ref a_3, .ref a_5, .ref a_7, .ref a_9, .null, .null, .null, .null, .null, .null])), (a_1, .inl (cA_2, 7, .inl (fun _ => 0))), (a_3, .inl (cA_4, 7, .inl (fun _ => 0))), (a_5, .inl (cA_6, 7, .inl (fun _ => 0))), (a_7, .inl (cA_8, 7, .inl (fun _ => 0))), (a_9, .inl (cA_10, 7, .inl (fun _ => 0))), (a_11, .inl (cA_12, 7, .inl (fun _ => 0)))] H := hP
  have hD : va_D A [(h0, .inr (6, [.ref a_1, .ref a_3, .ref a_5, .ref a_7, .ref a_9, .null, .null, .null, .null, .null, .null])), (a_1, .inl (cA_2, 7, .inl (fun _ => 0))), (a_3, .inl (cA_4, 7, .inl (fun _ => 0))), (a_5, .inl (cA_6, 7, .inl (fun _ => 0))), (a_7, .inl (cA_8, 7, .inl (fun _ => 0))), (a_9, .inl (cA_10, 7, .inl (fun _ => 0))), (a_11, .inl (cA_12, 7, .inl (fun _ => 0)))] := hD
  have hK : va_K (dC, dI) cls [(cA_2, .int), (cA_4, .int), (cA_6, .char), (cA_8, .int), (cA_10, .boolean), (cA_12, .boolean)] s := hK
  refine W.widen (k := 6) (n := 42) (Nat.le_of_ble_eq_true rfl) (Nat.le_of_ble_eq_true rfl) ?_
  refine va_putF (D := (dC, dI)) (ci := 6) (v := .ref a_11) (ty := (.array .boolean)) (C := RX6) (T := TX6) (N := 11) hx hb hq i_X6 tyX6 tyX6_ok nmX6 hown hK hP hD hS 0 rfl rfl 5 (by decide) (hq _ q_165) (fun _ h9 => h9) rfl hin rfl (by decide +kernel) rfl rfl (Nat.le_of_ble_eq_true rfl) dX6_init_49 (fun H locs hP hD hS => ?_)
  have hP : va_P (dC, dI) cls [(h0, .inr (6, [.ref a_1, .ref a_3, .ref a_5, .ref a_7, .ref a_9, .ref a_11, .null, .null, .null, .null, .null])), (a_1, .inl (cA_2, 7, .inl (fun _ => 0))), (a_3, .inl (cA_4, 7, .inl (fun _ => 0))), (a_5, .inl (cA_6, 7, .inl (fun _ => 0))), (a_7, .inl (cA_8, 7, .inl (fun _ => 0))), (a_9, .inl (cA_10, 7, .inl (fun _ => 0))), (a_11, .inl (cA_12, 7, .inl (fun _ => 0)))] H := hP
  have hD : va_D A [(h0, .inr (6, [.ref a_1, .ref a_3, .ref a_5, .ref a_7, .ref a_9, .ref a_11, .null, .null, .null, .null, .null])), (a_1, .inl (cA_2, 7, .inl (fun _ => 0))), (a_3, .inl (cA_4, 7, .inl (fun _ => 0))), (a_5, .inl (cA_6, 7, .inl (fun _ => 0))), (a_7, .inl (cA_8, 7, .inl (fun _ => 0))), (a_9, .inl (cA_10, 7, .inl (fun _ => 0))), (a_11, .inl (cA_12, 7, .inl (fun _ => 0)))] := hD
  refine lv_aload_n hx hb dX6_init_52 rfl (lv_at hl 0 rfl) ?_
  refine lv_bipush (v := 7) hx hb dX6_init_53 (by decide) ?_
  refine va_newa (atype := .boolean) (a0 := (7, .inl (fun _ => 0))) hx hb (hq _ q_82) rfl hK hP hD hS hA (fun _ => rfl) (by decide) (by decide) (Nat.le_of_ble_eq_true rfl) (Nat.le_of_ble_eq_true rfl) (Nat.le_of_ble_eq_true rfl) dX6_init_55 (fun a_13 cA_14 H hK hP hD hS => ?_)
  have hP : va_P (dC, dI) cls [(h0, .inr (6, [.ref a_1, .ref a_3, .ref a_5, .ref a_7, .ref a_9, .ref a_11, .null, .null, .null, .null, .null])), (a_1, .inl (cA_2, 7, .inl (fun _ => 0))), (a_3, .inl (cA_4, 7, .inl (fun _ => 0))), (a_5, .inl (cA_6, 7, .inl (fun _ => 0))), (a_7, .inl (cA_8, 7, .inl (fun _ => 0))), (a_9, .inl (cA_10, 7, .inl (fun _ => 0))), (a_11, .inl (cA_12, 7, .inl (fun _ => 0))), (a_13, .inl (cA_14, 7, .inl (fun _ => 0)))] H := hP
  have hD : va_D A [(h0, .inr (6, [.ref a_1, .ref a_3, .ref a_5, .ref a_7, .ref a_9, .ref a_11, .null, .null, .null, .null, .null])), (a_1, .inl (cA_2, 7, .inl (fun _ => 0))), (a_3, .inl (cA_4, 7, .inl (fun _ => 0))), (a_5, .inl (cA_6, 7, .inl (fun _ => 0))), (a_7, .inl (cA_8, 7, .inl (fun _ => 0))), (a_9, .inl (cA_10, 7, .inl (fun _ => 0))), (a_11, .inl (cA_12, 7, .inl (fun _ => 0))), (a_13, .inl (cA_14, 7, .inl (fun _ => 0)))] := hD
  have hK : va_K (dC, dI) cls [(cA_2, .int), (cA_4, .int), (cA_6, .char), (cA_8, .int), (cA_10, .boolean), (cA_12, .boolean), (cA_14, .boolean)] s := hK
  refine W.widen (k := 7) (n := 49) (Nat.le_of_ble_eq_true rfl) (Nat.le_of_ble_eq_true rfl) ?_
  refine va_putF (D := (dC, dI)) (ci := 6) (v := .ref a_13) (ty := (.array .boolean)) (C := RX6) (T := TX6) (N := 11) hx hb hq i_X6 tyX6 tyX6_ok nmX6 hown hK hP hD hS 0 rfl rfl 6 (by decide) (hq _ q_166) (fun _ h9 => h9) rfl hin rfl (by decide +kernel) rfl rfl (Nat.le_of_ble_eq_true rfl) dX6_init_57 (fun H locs hP hD hS => ?_)
  have hP : va_P (dC, dI) cls [(h0, .inr (6, [.ref a_1, .ref a_3, .ref a_5, .ref a_7, .ref a_9, .ref a_11, .ref a_13, .null, .null, .null, .null])), (a_1, .inl (cA_2, 7, .inl (fun _ => 0))), (a_3, .inl (cA_4, 7, .inl (fun _ => 0))), (a_5, .inl (cA_6, 7, .inl (fun _ => 0))), (a_7, .inl (cA_8, 7, .inl (fun _ => 0))), (a_9, .inl (cA_10, 7, .inl (fun _ => 0))), (a_11, .inl (cA_12, 7, .inl (fun _ => 0))), (a_13, .inl (cA_14, 7, .inl (fun _ => 0)))] H := hP
  have hD : va_D A [(h0, .inr (6, [.ref a_1, .ref a_3, .ref a_5, .ref a_7, .ref a_9, .ref a_11, .ref a_13, .null, .null, .null, .null])), (a_1, .inl (cA_2, 7, .inl (fun _ => 0))), (a_3, .inl (cA_4, 7, .inl (fun _ => 0))), (a_5, .inl (cA_6, 7, .inl (fun _ => 0))), (a_7, .inl (cA_8, 7, .inl (fun _ => 0))), (a_9, .inl (cA_10, 7, .inl (fun _ => 0))), (a_11, .inl (cA_12, 7, .inl (fun _ => 0))), (a_13, .inl (cA_14, 7, .inl (fun _ => 0)))] := hD
  refine lv_aload_n hx hb dX6_init_60 rfl (lv_at hl 0 rfl) ?_
  refine lv_bipush (v := 7) hx hb dX6_init_61 (by decide) ?_
  refine va_newa (atype := .boolean) (a0 := (7, .inl (fun _ => 0))) hx hb (hq _ q_82) rfl hK hP hD hS hA (fun _ => rfl) (by decide) (by decide) (Nat.le_of_ble_eq_true rfl) (Nat.le_of_ble_eq_true rfl) (Nat.le_of_ble_eq_true rfl) dX6_init_63 (fun a_15 cA_16 H hK hP hD hS => ?_)
  have hP : va_P (dC, dI) cls [(h0, .inr (6, [.ref a_1, .ref a_3, .ref a_5, .ref a_7, .ref a_9, .ref a_11, .ref a_13, .null, .null, .null, .null])), (a_1, .inl (cA_2, 7, .inl (fun _ => 0))), (a_3, .inl (cA_4, 7, .inl (fun _ => 0))), (a_5, .inl (cA_6, 7, .inl (fun _ => 0))), (a_7, .inl (cA_8, 7, .inl (fun _ => 0))), (a_9, .inl (cA_10, 7, .inl (fun _ => 0))), (a_11, .inl (cA_12, 7, .inl (fun _ => 0))), (a_13, .inl (cA_14, 7, .inl (fun _ => 0))), (a_15, .inl (cA_16, 7, .inl (fun _ => 0)))] H := hP
  have hD : va_D A [(h0, .inr (6, [.ref a_1, .ref a_3, .ref a_5, .ref a_7, .ref a_9, .ref a_11, .ref a_13, .null, .null, .null, .null])), (a_1, .inl (cA_2, 7, .inl (fun _ => 0))), (a_3, .inl (cA_4, 7, .inl (fun _ => 0))), (a_5, .inl (cA_6, 7, .inl (fun _ => 0))), (a_7, .inl (cA_8, 7, .inl (fun _ => 0))), (a_9, .inl (cA_10, 7, .inl (fun _ => 0))), (a_11, .inl (cA_12, 7, .inl (fun _ => 0))), (a_13, .inl (cA_14, 7, .inl (fun _ => 0))), (a_15, .inl (cA_16, 7, .inl (fun _ => 0)))] := hD
  have hK : va_K (dC, dI) cls [(cA_2, .int), (cA_4, .int), (cA_6, .char), (cA_8, .int), (cA_10, .boolean), (cA_12, .boolean), (cA_14, .boolean), (cA_16, .boolean)] s := hK
  refine W.widen (k := 8) (n := 56) (Nat.le_of_ble_eq_true rfl) (Nat.le_of_ble_eq_true rfl) ?_
  refine va_putF (D := (dC, dI)) (ci := 6) (v := .ref a_15) (ty := (.array .boolean)) (C := RX6) (T := TX6) (N := 11) hx hb hq i_X6 tyX6 tyX6_ok nmX6 hown hK hP hD hS 0 rfl rfl 7 (by decide) (hq _ q_167) (fun _ h9 => h9) rfl hin rfl (by decide +kernel) rfl rfl (Nat.le_of_ble_eq_true rfl) dX6_init_65 (fun H locs hP hD hS => ?_)
  have hP : va_P (dC, dI) cls [(h0, .inr (6, [.ref a_1, .ref a_3, .ref a_5, .ref a_7, .ref a_9, .ref a_11, .ref a_13, .ref a_15, .null, .null, .null])), (a_1, .inl (cA_2, 7, .inl (fun _ => 0))), (a_3, .inl (cA_4, 7, .inl (fun _ => 0))), (a_5, .inl (cA_6, 7, .inl (fun _ => 0))), (a_7, .inl (cA_8, 7, .inl (fun _ => 0))), (a_9, .inl (cA_10, 7, .inl (fun _ => 0))), (a_11, .inl (cA_12, 7, .inl (fun _ => 0))), (a_13, .inl (cA_14, 7, .inl (fun _ => 0))), (a_15, .inl (cA_16, 7, .inl (fun _ => 0)))] H := hP
  have hD : va_D A [(h0, .inr (6, [.ref a_1, .ref a_3, .ref a_5, .ref a_7, .ref a_9, .ref a_11, .ref a_13, .ref a_15, .null, .null, .null])), (a_1, .inl (cA_2, 7, .inl (fun _ => 0))), (a_3, .inl (cA_4, 7, .inl (fun _ => 0))), (a_5, .inl (cA_6, 7, .inl (fun _ => 0))), (a_7, .inl (cA_8, 7, .inl (fun _ => 0))), (a_9, .inl (cA_10, 7, .inl (fun _ => 0))), (a_11, .inl (cA_12, 7, .inl (fun _ => 0))), (a_13, .inl (cA_14, 7, .inl (fun _ => 0))), (a_15, .inl (cA_16, 7, .inl (fun _ => 0)))] := hD
  refine lv_aload_n hx hb dX6_init_68 rfl (lv_at hl 0 rfl) ?_
  refine lv_bipush (v := 7) hx hb dX6_init_69 (by decide) ?_
  refine va_newa (atype := .boolean) (a0 := (7, .inl (fun _ => 0))) hx hb (hq _ q_82) rfl hK hP hD hS hA (fun _ => rfl) (by decide) (by decide) (Nat.le_of_ble_eq_true rfl) (Nat.le_of_ble_eq_true rfl) (Nat.le_of_ble_eq_true rfl) dX6_init_71 (fun a_17 cA_18 H hK hP hD hS => ?_)
  have hP : va_P (dC, dI) cls [(h0, .inr (6, [.ref a_1, .ref a_3, .ref a_5, .ref a_7, .ref a_9, .ref a_11, .ref a_13, .ref a_15, .null, .null, .null])), (a_1, .inl (cA_2, 7, .inl (fun _ => 0))), (a_3, .inl (cA_4, 7, .inl (fun _ => 0))), (a_5, .inl (cA_6, 7, .inl (fun _ => 0))), (a_7, .inl (cA_8, 7, .inl (fun _ => 0))), (a_9, .inl (cA_10, 7, .inl (fun _ => 0))), (a_11, .inl (cA_12, 7, .inl (fun _ => 0))), (a_13, .inl (cA_14, 7, .inl (fun _ => 0))), (a_15, .inl (cA_16, 7, .inl (fun _ => 0))), (a_17, .inl (cA_18, 7, .inl (fun _ => 0)))] H := hP
  have hD : va_D A [(h0, .inr (6, [.ref a_1, .ref a_3, .ref a_5, .ref a_7, .ref a_9, .ref a_11, .ref a_13, .ref a_15, .null, .null, .null])), (a_1, .inl (cA_2, 7, .inl (fun _ => 0))), (a_3, .inl (cA_4, 7, .inl (fun _ => 0))), (a_5, .inl (cA_6, 7, .inl (fun _ => 0))), (a_7, .inl (cA_8, 7, .inl (fun _ => 0))), (a_9, .inl (cA_10, 7, .inl (fun _ => 0))), (a_11, .inl (cA_12, 7, .inl (fun _ => 0))), (a_13, .inl (cA_14, 7, .inl (fun _ => 0))), (a_15, .inl (cA_16, 7, .inl (fun _ => 0))), (a_17, .inl (cA_18, 7, .inl (fun _ => 0)))] := hD
  have hK : va_K (dC, dI) cls [(cA_2, .int), (cA_4, .int), (cA_6, .char), (cA_8, .int), (cA_10, .boolean), (cA_12, .boolean), (cA_14, .boolean), (cA_16, .boolean), (cA_18, .boolean)] s := hK
  refine W.widen (k := 9) (n := 63) (Nat.le_of_ble_eq_true rfl) (Nat.le_of_ble_eq_true rfl) ?_
  refine va_putF (D := (dC, dI)) (ci := 6) (v := .ref a_17) (ty := (.array .boolean)) (C := RX6) (T := TX6) (N := 11) hx hb hq i_X6 tyX6 tyX6_ok nmX6 hown hK hP hD hS 0 rfl rfl 8 (by decide) (hq _ q_168) (fun _ h9 => h9) rfl hin rfl (by decide +kernel) rfl rfl (Nat.le_of_ble_eq_true rfl) dX6_init_73 (fun H locs hP hD hS => ?_)
  have hP : va_P (dC, dI) cls [(h0, .inr (6, [.ref a_1, .ref a_3, .ref a_5, .ref a_7, .ref a_9, .ref a_11, .ref a_13, .ref a_15, .ref a_17, .null, .null])), (a_1, .inl (cA_2, 7, .inl (fun _ => 0))), (a_3, .inl (cA_4, 7, .inl (fun _ => 0))), (a_5, .inl (cA_6, 7, .inl (fun _ => 0))), (a_7, .inl (cA_8, 7, .inl (fun _ => 0))), (a_9, .inl (cA_10, 7, .inl (fun _ => 0))), (a_11, .inl (cA_12, 7, .inl (fun _ => 0))), (a_13, .inl (cA_14, 7, .inl (fun _ => 0))), (a_15, .inl (cA_16, 7, .inl (fun _ => 0))), (a_17, .inl (cA_18, 7, .inl (fun _ => 0)))] H := hP
  have hD : va_D A [(h0, .inr (6, [.ref a_1, .ref a_3, .ref a_5, .ref a_7, .ref a_9, .ref a_11, .ref a_13, .ref a_15, .ref a_17, .null, .null])), (a_1, .inl (cA_2, 7, .inl (fun _ => 0))), (a_3, .inl (cA_4, 7, .inl (fun _ => 0))), (a_5, .inl (cA_6, 7, .inl (fun _ => 0))), (a_7, .inl (cA_8, 7, .inl (fun _ => 0))), (a_9, .inl (cA_10, 7, .inl (fun _ => 0))), (a_11, .inl (cA_12, 7, .inl (fun _ => 0))), (a_13, .inl (cA_14, 7, .inl (fun _ => 0))), (a_15, .inl (cA_16, 7, .inl (fun _ => 0))), (a_17, .inl (cA_18, 7, .inl (fun _ => 0)))] := hD
  refine lv_aload_n hx hb dX6_init_76 rfl (lv_at hl 0 rfl) ?_
  refine lv_bipush (v := 7) hx hb dX6_init_77 (by decide) ?_
  refine va_newa (atype := .boolean) (a0 := (7, .inl (fun _ => 0))) hx hb (hq _ q_82) rfl hK hP hD hS hA (fun _ => rfl) (by decide) (by decide) (Nat.le_of_ble_eq_true rfl) (Nat.le_of_ble_eq_true rfl) (Nat.le_of_ble_eq_true rfl) dX6_init_79 (fun a_19 cA_20 H hK hP hD hS => ?_)
  have hP : va_P (dC, dI) cls [(h0, .inr (6, [.ref a_1, .ref a_3, .ref a_5, .ref a_7, .ref a_9, .ref a_11, .ref a_13, .ref a_15, .ref a_17, .null, .null])), (a_1, .inl (cA_2, 7, .inl (fun _ => 0))), (a_3, .inl (cA_4, 7, .inl (fun _ => 0))), (a_5, .inl (cA_6, 7, .inl (fun _ => 0))), (a_7, .inl (cA_8, 7, .inl (fun _ => 0))), (a_9, .inl (cA_10, 7, .inl (fun _ => 0))), (a_11, .inl (cA_12, 7, .inl (fun _ => 0))), (a_13, .inl (cA_14, 7, .inl (fun _ => 0))), (a_15, .inl (cA_16, 7, .inl (fun _ => 0))), (a_17, .inl (cA_18, 7, .inl (fun _ => 0))), (a_19, .inl (cA_20, 7, .inl (fun _ => 0)))] H := hP
  have hD : va_D A [(h0, .inr (6, [.ref a_1, .ref a_3, .ref a_5, .ref a_7, .ref a_9, .ref a_11, .ref a_13, .ref a_15, .ref a_17, .null, .null])), (a_1, .inl (cA_2, 7, .inl (fun _ => 0))), (a_3, .inl (cA_4, 7, .inl (fun _ => 0))), (a_5, .inl (cA_6, 7, .inl (fun _ => 0))), (a_7, .inl (cA_8, 7, .inl (fun _ => 0))), (a_9, .inl (cA_10, 7, .inl (fun _ => 0))), (a_11, .inl (cA_12, 7, .inl (fun _ => 0))), (a_13, .inl (cA_14, 7, .inl (fun _ => 0))), (a_15, .inl (cA_16, 7, .inl (fun _ => 0))), (a_17, .inl (cA_18, 7, .inl (fun _ => 0))), (a_19, .inl (cA_20, 7, .inl (fun _ => 0)))] := hD
  have hK : va_K (dC, dI) cls [(cA_2, .int), (cA_4, .int), (cA_6, .char), (cA_8, .int), (cA_10, .boolean), (cA_12, .boolean), (cA_14, .boolean), (cA_16, .boolean), (cA_18, .boolean), (cA_20, .boolean)] s := hK
  refine W.widen (k := 10) (n := 70) (Nat.le_of_ble_eq_true rfl) (Nat.le_of_ble_eq_true rfl) ?_
  refine va_putF (D := (dC, dI)) (ci := 6) (v := .ref a_19) (ty := (.array .boolean)) (C := RX6) (T := TX6) (N := 11) hx hb hq i_X6 tyX6 tyX6_ok nmX6 hown hK hP hD hS 0 rfl rfl 9 (by decide) (hq _ q_169) (fun _ h9 => h9) rfl hin rfl (by decide +kernel) rfl rfl (Nat.le_of_ble_eq_true rfl) dX6_init_81 (fun H locs hP hD hS => ?_)
  have hP : va_P (dC, dI) cls [(h0, .inr (6, [.ref a_1, .ref a_3, .ref a_5, .ref a_7, .ref a_9, .ref a_11, .ref a_13, .ref a_15, .ref a_17, .ref a_19, .null])), (a_1, .inl (cA_2, 7, .inl (fun _ => 0))), (a_3, .inl (cA_4, 7, .inl (fun _ => 0))), (a_5, .inl (cA_6, 7, .inl (fun _ => 0))), (a_7, .inl (cA_8, 7, .inl (fun _ => 0))), (a_9, .inl (cA_10, 7, .inl (fun _ => 0))), (a_11, .inl (cA_12, 7, .inl (fun _ => 0))), (a_13, .inl (cA_14, 7, .inl (fun _ => 0))), (a_15, .inl (cA_16, 7, .inl (fun _ => 0))), (a_17, .inl (cA_18, 7, .inl (fun _ => 0))), (a_19, .inl (cA_20, 7, .inl (fun _ => 0)))] H := hP
  have hD : va_D A [(h0, .inr (6, [.ref a_1, .ref a_3, .ref a_5, .ref a_7, .ref a_9, .ref a_11, .ref a_13, .ref a_15, .ref a_17, .ref a_19, .null])), (a_1, .inl (cA_2, 7, .inl (fun _ => 0))), (a_3, .inl (cA_4, 7, .inl (fun _ => 0))), (a_5, .inl (cA_6, 7, .inl (fun _ => 0))), (a_7, .inl (cA_8, 7, .inl (fun _ => 0))), (a_9, .inl (cA_10, 7, .inl (fun _ => 0))), (a_11, .inl (cA_12, 7, .inl (fun _ => 0))), (a_13, .inl (cA_14, 7, .inl (fun _ => 0))), (a_15, .inl (cA_16, 7, .inl (fun _ => 0))), (a_17, .inl (cA_18, 7, .inl (fun _ => 0))), (a_19, .inl (cA_20, 7, .inl (fun _ => 0)))] := hD
  refine lv_aload_n hx hb dX6_init_84 rfl (lv_at hl 0 rfl) ?_
  refine lv_bipush (v := 7) hx hb dX6_init_85 (by decide) ?_
  refine va_newa (atype := .char) (a0 := (7, .inl (fun _ => 0))) hx hb (hq _ q_80) rfl hK hP hD hS hA (fun _ => rfl) (by decide) (by decide) (Nat.le_of_ble_eq_true rfl) (Nat.le_of_ble_eq_true rfl) (Nat.le_of_ble_eq_true rfl) dX6_init_87 (fun a_21 cA_22 H hK hP hD hS => ?_)
  have hP : va_P (dC, dI) cls [(h0, .inr (6, [.ref a_1, .ref a_3, .ref a_5, .ref a_7, .ref a_9, .ref a_11, .ref a_13, .ref a_15, .ref a_17, .ref a_19, .null])), (a_1, .inl (cA_2, 7, .inl (fun _ => 0))), (a_3, .inl (cA_4, 7, .inl (fun _ => 0))), (a_5, .inl (cA_6, 7, .inl (fun _ => 0))), (a_7, .inl (cA_8, 7, .inl (fun _ => 0))), (a_9, .inl (cA_10, 7, .inl (fun _ => 0))), (a_11, .inl (cA_12, 7, .inl (fun _ => 0))), (a_13, .inl (cA_14, 7, .inl (fun _ => 0))), (a_15, .inl (cA_16, 7, .inl (fun _ => 0))), (a_17, .inl (cA_18, 7, .inl (fun _ => 0))), (a_19, .inl (cA_20, 7, .inl (fun _ => 0))), (a_21, .inl (cA_22, 7, .inl (fun _ => 0)))] H := hP
  have hD : va_D A [(h0, .inr (6, [.ref a_1, .ref a_3, .ref a_5, .ref a_7, .ref a_9, .ref a_11, .ref a_13, .ref a_15, .ref a_17, .ref a_19, .null])), (a_1, .inl (cA_2, 7, .inl (fun _ => 0))), (a_3, .inl (cA_4, 7, .inl (fun _ => 0))), (a_5, .inl (cA_6, 7, .inl (fun _ => 0))), (a_7, .inl (cA_8, 7, .inl (fun _ => 0))), (a_9, .inl (cA_10, 7, .inl (fun _ => 0))), (a_11, .inl (cA_12, 7, .inl (fun _ => 0))), (a_13, .inl (cA_14, 7, .inl (fun _ => 0))), (a_15, .inl (cA_16, 7, .inl (fun _ => 0))), (a_17, .inl (cA_18, 7, .inl (fun _ => 0))), (a_19, .inl (cA_20, 7, .inl (fun _ => 0))), (a_21, .inl (cA_22, 7, .inl (fun _ => 0)))] := hD
  have hK : va_K (dC, dI) cls [(cA_2, .int), (cA_4, .int), (cA_6, .char), (cA_8, .int), (cA_10, .boolean), (cA_12, .boolean), (cA_14, .boolean), (cA_16, .boolean), (cA_18, .boolean), (cA_20, .boolean), (cA_22, .char)] s := hK
  refine W.widen (k := 11) (n := 77) (Nat.le_of_ble_eq_true rfl) (Nat.le_of_ble_eq_true rfl) ?_
  refine va_putF (D := (dC, dI)) (ci := 6) (v := .ref a_21) (ty := (.array .char)) (C := RX6) (T := TX6) (N := 11) hx hb hq i_X6 tyX6 tyX6_ok nmX6 hown hK hP hD hS 0 rfl rfl 10 (by decide) (hq _ q_170) (fun _ h9 => h9) rfl hin rfl (by decide +kernel) rfl rfl (Nat.le_of_ble_eq_true rfl) dX6_init_89 (fun H locs hP hD hS => ?_)
  have hP : va_P (dC, dI) cls [(h0, .inr (6, [.ref a_1, .ref a_3, .ref a_5, .ref a_7, .ref a_9, .ref a_11, .ref a_13, .ref a_15, .ref a_17, .ref a_19, .ref a_21])), (a_1, .inl (cA_2, 7, .inl (fun _ => 0))), (a_3, .inl (cA_4, 7, .inl (fun _ => 0))), (a_5, .inl (cA_6, 7, .inl (fun _ => 0))), (a_7, .inl (cA_8, 7, .inl (fun _ => 0))), (a_9, .inl (cA_10, 7, .inl (fun _ => 0))), (a_11, .inl (cA_12, 7, .inl (fun _ => 0))), (a_13, .inl (cA_14, 7, .inl (fun _ => 0))), (a_15, .inl (cA_16, 7, .inl (fun _ => 0))), (a_17, .inl (cA_18, 7, .inl (fun _ => 0))), (a_19, .inl (cA_20, 7, .inl (fun _ => 0))), (a_21, .inl (cA_22, 7, .inl (fun _ => 0)))] H := hP
  have hD : va_D A [(h0, .inr (6, [.ref a_1, .ref a_3, .ref a_5, .ref a_7, .ref a_9, .ref a_11, .ref a_13, .ref a_15, .ref a_17, .ref a_19, .ref a_21])), (a_1, .inl (cA_2, 7, .inl (fun _ => 0))), (a_3, .inl (cA_4, 7, .inl (fun _ => 0))), (a_5, .inl (cA_6, 7, .inl (fun _ => 0))), (a_7, .inl (cA_8, 7, .inl (fun _ => 0))), (a_9, .inl (cA_10, 7, .inl (fun _ => 0))), (a_11, .inl (cA_12, 7, .inl (fun _ => 0))), (a_13, .inl (cA_14, 7, .inl (fun _ => 0))), (a_15, .inl (cA_16, 7, .inl (fun _ => 0))), (a_17, .inl (cA_18, 7, .inl (fun _ => 0))), (a_19, .inl (cA_20, 7, .inl (fun _ => 0))), (a_21, .inl (cA_22, 7, .inl (fun _ => 0)))] := hD
  refine W.widen (k := 11) (n := 77) (Nat.le_of_ble_eq_true rfl) (Nat.le_of_ble_eq_true rfl) ?_
  exact W.vret hx hb hr (fun t ht hW => ⟨⟨(), rfl, trivial, trivial⟩, hS.F ht⟩) hS.2.2 dX6_init_92
abbrev cX2_init : ByteArray := prog_4_method_1_code
def yX2_init : MethodName := ⟨RX2, "<init>", "()V"⟩
theorem dX2_init_0 : decode cX2_init 0 = .ok (.aload_n 0, 1) := by decide +kernel
theorem dX2_init_1 : decode cX2_init 1 = .ok (.invokespecial 3, 3) := by decide +kernel
theorem q_88 : (Cond.methodLink "NightfallVillage$Deal" 3 objectInit) ∈ tw := tw_in (i := 88) (by decide +kernel) (by decide +kernel)
theorem dX2_init_4 : decode cX2_init 4 = .ok (.aload_n 0, 1) := by decide +kernel
theorem dX2_init_5 : decode cX2_init 5 = .ok (.bipush 7, 2) := by decide +kernel
theorem dX2_init_7 : decode cX2_init 7 = .ok (.newarray .int, 2) := by decide +kernel
theorem dX2_init_9 : decode cX2_init 9 = .ok (.putfield 9, 3) := by decide +kernel
theorem q_89 : (Cond.fieldLink "NightfallVillage$Deal" 9 "NightfallVillage$Deal" "dealtRoles" "[I") ∈ tw := tw_in (i := 89) (by decide +kernel) (by decide +kernel)
theorem dX2_init_12 : decode cX2_init 12 = .ok (.aload_n 0, 1) := by decide +kernel
theorem dX2_init_13 : decode cX2_init 13 = .ok (.bipush 7, 2) := by decide +kernel
theorem dX2_init_15 : decode cX2_init 15 = .ok (.newarray .int, 2) := by decide +kernel
theorem dX2_init_17 : decode cX2_init 17 = .ok (.putfield 15, 3) := by decide +kernel
theorem q_90 : (Cond.fieldLink "NightfallVillage$Deal" 15 "NightfallVillage$Deal" "forebears" "[I") ∈ tw := tw_in (i := 90) (by decide +kernel) (by decide +kernel)
theorem dX2_init_20 : decode cX2_init 20 = .ok (.aload_n 0, 1) := by decide +kernel
theorem dX2_init_21 : decode cX2_init 21 = .ok (.bipush 7, 2) := by decide +kernel
theorem dX2_init_23 : decode cX2_init 23 = .ok (.newarray .int, 2) := by decide +kernel
theorem dX2_init_25 : decode cX2_init 25 = .ok (.putfield 18, 3) := by decide +kernel
theorem q_91 : (Cond.fieldLink "NightfallVillage$Deal" 18 "NightfallVillage$Deal" "marks" "[I") ∈ tw := tw_in (i := 91) (by decide +kernel) (by decide +kernel)
theorem dX2_init_28 : decode cX2_init 28 = .ok (.aload_n 0, 1) := by decide +kernel
theorem dX2_init_29 : decode cX2_init 29 = .ok (.iconst (-1), 1) := by decide +kernel
theorem dX2_init_30 : decode cX2_init 30 = .ok (.putfield 21, 3) := by decide +kernel
theorem q_96 : (Cond.fieldLink "NightfallVillage$Deal" 21 "NightfallVillage$Deal" "lover" "I") ∈ tw := tw_in (i := 96) (by decide +kernel) (by decide +kernel)
theorem dX2_init_33 : decode cX2_init 33 = .ok (.aload_n 0, 1) := by decide +kernel
theorem dX2_init_34 : decode cX2_init 34 = .ok (.iconst (-1), 1) := by decide +kernel
theorem dX2_init_35 : decode cX2_init 35 = .ok (.putfield 25, 3) := by decide +kernel
theorem q_97 : (Cond.fieldLink "NightfallVillage$Deal" 25 "NightfallVillage$Deal" "otherLover" "I") ∈ tw := tw_in (i := 97) (by decide +kernel) (by decide +kernel)
theorem dX2_init_38 : decode cX2_init 38 = .ok (.return_, 1) := by decide +kernel
set_option maxHeartbeats 4000000 in
set_option maxRecDepth 100000 in
theorem c_Deal_init (l : Launch) (hst : l.stackTraces = false) (tE : Nat) (adK adV : Nat → Nat) (dC : Nat → ClassId) (dI : Nat → Nat → Nat) (h0 : Nat) (sz : Nat) : Met l yX2_init (Cond.code yX2_init cX2_init 1 none :: tw) ({ frames := 1, cells := 3, slots := 21, locals := 12 }) (va_Pc [.ref h0] (pre tE adK adV (dC, dI) [(h0, .inr (2, [.null, .null, .null, .int 0, .int 0, .int 0]))] [] sz)) (va_Qv (fun (_ : Unit) => True) (fun (_ : Unit) (t : State) => ∃ (q1 : Nat) (q2 : Nat) (q3 : Nat), va_P (dC, dI) cls [(h0, .inr (2, [.ref q1, .ref q2, .ref q3, .int 0, .int (-1), .int (-1)]))] t.heap ∧ va_K (dC, dI) cls [] t ∧ va_D (va_A [(h0, .inr (2, [.null, .null, .null, .int 0, .int 0, .int 0]))] sz) [(h0, .inr (2, [.ref q1, .ref q2, .ref q3, .int 0, .int (-1), .int (-1)]))]) (va_A [(h0, .inr (2, [.null, .null, .null, .int 0, .int 0, .int 0]))] sz)) 3 21 (va_A [(h0, .inr (2, [.null, .null, .null, .int 0, .int 0, .int 0]))] sz) := by
  refine Met.ofW (cc := cX2_init) (maxL := 1) (ret := none) (by decide) rfl ?_
  intro p e s m args below meth c s₁ B hml hv
  obtain ⟨rfl, hsz, hP, hK, hD0, ham⟩ := hv
  have hx := B.exec
  have hb := B.bytes
  have hr := B.returns
  have hts := atoms_spec B.pre
  have hq : ∀ w ∈ tw, w.before _ s = true := fun w h => hts w (List.mem_cons_of_mem _ h)
  have hown : s.vm.findClass RX2 = some m.cls := findClass_of_methodNamed B.named
  have hlocks := B.notSynchronized
  have hin : meth.name = "<init>" := (name_of_methodNamed B.named B.method).1
  subst hsz
  have hD := hD0.self (sz := s.heap.size)
  generalize hAe : va_A [(h0, .inr (2, [.null, .null, .null, .int 0, .int 0, .int 0]))] s.heap.size = A at hD ham ⊢
  have hA : ∀ q : Nat, s.heap.size ≤ q → A q := fun q h => by rw [← hAe]; exact Or.inr h
  have hS : va_S A s.heap s.heap [] := va_S.rf
  have hP : va_P (dC, dI) cls [(h0, .inr (2, [.null, .null, .null, .int 0, .int 0, .int 0]))] s.heap := hP
  have hl := lv_entry ([.ref h0]) (n := 1) (Nat.le_of_ble_eq_true rfl)
  rw [lg_entry_eq]
  generalize (lg_sl ([.ref h0]) ++ List.replicate (1 - (lg_sl ([.ref h0])).length) Slot.unset).toArray = ls at hl ⊢
  have hl : lv_has ls 1 [(0, .ref h0)] := hl
  refine lv_aload_n hx hb dX2_init_0 rfl (lv_at hl 0 rfl) ?_
  refine W.objInit hx hb hown (hq _ q_88) (hq _ q_45) (hq _ q_46) rfl (by rw [hml]; exact hl.1) rfl dX2_init_1 (Nat.le_of_ble_eq_true rfl) (Nat.le_of_ble_eq_true rfl) ?_
  refine W.eq (g2 := F0 m 4 ls []) rfl ?_
  refine lv_aload_n hx hb dX2_init_4 rfl (lv_at hl 0 rfl) ?_
  refine lv_bipush (v := 7) hx hb dX2_init_5 (by decide) ?_
  refine va_newa (atype := .int) (a0 := (7, .inl (fun _ => 0))) hx hb (hq _ q_81) rfl hK hP hD hS hA (fun _ => rfl) (by decide) (by decide) (Nat.le_of_ble_eq_true rfl) (Nat.le_of_ble_eq_true rfl) (Nat.le_of_ble_eq_true rfl) dX2_init_7 (fun a_1 cA_2 H hK hP hD hS => ?_)
  have hP : va_P (dC, dI) cls [(h0, .inr (2, [.null, .null, .null, .int 0, .int 0, .int 0])), (a_1, .inl (cA_2, 7, .inl (fun _ => 0)))] H := hP
  have hD : va_D A [(h0, .inr (2, [.null, .null, .null, .int 0, .int 0, .int 0])), (a_1, .inl (cA_2, 7, .inl (fun _ => 0)))] := hD
  have hK : va_K (dC, dI) cls [(cA_2, .int)] s := hK
  refine W.widen (k := 1) (n := 7) (Nat.le_of_ble_eq_true rfl) (Nat.le_of_ble_eq_true rfl) ?_
  refine va_putF (D := (dC, dI)) (ci := 2) (v := .ref a_1) (ty := (.array .int)) (C := RX2) (T := TX2) (N := 6) hx hb hq i_X2 tyX2 tyX2_ok nmX2 hown hK hP hD hS 0 rfl rfl 0 (by decide) (hq _ q_89) (fun _ h9 => h9) rfl hin rfl (by decide +kernel) rfl rfl (Nat.le_of_ble_eq_true rfl) dX2_init_9 (fun H locs hP hD hS => ?_)
  have hP : va_P (dC, dI) cls [(h0, .inr (2, [.ref a_1, .null, .null, .int 0, .int 0, .int 0])), (a_1, .inl (cA_2, 7, .inl (fun _ => 0)))] H := hP
  have hD : va_D A [(h0, .inr (2, [.ref a_1, .null, .null, .int 0, .int 0, .int 0])), (a_1, .inl (cA_2, 7, .inl (fun _ => 0)))] := hD
  refine lv_aload_n hx hb dX2_init_12 rfl (lv_at hl 0 rfl) ?_
  refine lv_bipush (v := 7) hx hb dX2_init_13 (by decide) ?_
  refine va_newa (atype := .int) (a0 := (7, .inl (fun _ => 0))) hx hb (hq _ q_81) rfl hK hP hD hS hA (fun _ => rfl) (by decide) (by decide) (Nat.le_of_ble_eq_true rfl) (Nat.le_of_ble_eq_true rfl) (Nat.le_of_ble_eq_true rfl) dX2_init_15 (fun a_3 cA_4 H hK hP hD hS => ?_)
  have hP : va_P (dC, dI) cls [(h0, .inr (2, [.ref a_1, .null, .null, .int 0, .int 0, .int 0])), (a_1, .inl (cA_2, 7, .inl (fun _ => 0))), (a_3, .inl (cA_4, 7, .inl (fun _ => 0)))] H := hP
  have hD : va_D A [(h0, .inr (2, [.ref a_1, .null, .null, .int 0, .int 0, .int 0])), (a_1, .inl (cA_2, 7, .inl (fun _ => 0))), (a_3, .inl (cA_4, 7, .inl (fun _ => 0)))] := hD
  have hK : va_K (dC, dI) cls [(cA_2, .int), (cA_4, .int)] s := hK
  refine W.widen (k := 2) (n := 14) (Nat.le_of_ble_eq_true rfl) (Nat.le_of_ble_eq_true rfl) ?_
  refine va_putF (D := (dC, dI)) (ci := 2) (v := .ref a_3) (ty := (.array .int)) (C := RX2) (T := TX2) (N := 6) hx hb hq i_X2 tyX2 tyX2_ok nmX2 hown hK hP hD hS 0 rfl rfl 1 (by decide) (hq _ q_90) (fun _ h9 => h9) rfl hin rfl (by decide +kernel) rfl rfl (Nat.le_of_ble_eq_true rfl) dX2_init_17 (fun H locs hP hD hS => ?_)
  have hP : va_P (dC, dI) cls [(h0, .inr (2, [.ref a_1, .ref a_3, .null, .int 0, .int 0, .int 0])), (a_1, .inl (cA_2, 7, .inl (fun _ => 0))), (a_3, .inl (cA_4, 7, .inl (fun _ => 0)))] H := hP
  have hD : va_D A [(h0, .inr (2, [.ref a_1, .ref a_3, .null, .int 0, .int 0, .int 0])), (a_1, .inl (cA_2, 7, .inl (fun _ => 0))), (a_3, .inl (cA_4, 7, .inl (fun _ => 0)))] := hD
  refine lv_aload_n hx hb dX2_init_20 rfl (lv_at hl 0 rfl) ?_
  refine lv_bipush (v := 7) hx hb dX2_init_21 (by decide) ?_
  refine va_newa (atype := .int) (a0 := (7, .inl (fun _ => 0))) hx hb (hq _ q_81) rfl hK hP hD hS hA (fun _ => rfl) (by decide) (by decide) (Nat.le_of_ble_eq_true rfl) (Nat.le_of_ble_eq_true rfl) (Nat.le_of_ble_eq_true rfl) dX2_init_23 (fun a_5 cA_6 H hK hP hD hS => ?_)
  have hP : va_P (dC, dI) cls [(h0, .inr (2, [.ref a_1, .ref a_3, .null, .int 0, .int 0, .int 0])), (a_1, .inl (cA_2, 7, .inl (fun _ => 0))), (a_3, .inl (cA_4, 7, .inl (fun _ => 0))), (a_5, .inl (cA_6, 7, .inl (fun _ => 0)))] H := hP
  have hD : va_D A [(h0, .inr (2, [.ref a_1, .ref a_3, .null, .int 0, .int 0, .int 0])), (a_1, .inl (cA_2, 7, .inl (fun _ => 0))), (a_3, .inl (cA_4, 7, .inl (fun _ => 0))), (a_5, .inl (cA_6, 7, .inl (fun _ => 0)))] := hD
  have hK : va_K (dC, dI) cls [(cA_2, .int), (cA_4, .int), (cA_6, .int)] s := hK
  refine W.widen (k := 3) (n := 21) (Nat.le_of_ble_eq_true rfl) (Nat.le_of_ble_eq_true rfl) ?_
  refine va_putF (D := (dC, dI)) (ci := 2) (v := .ref a_5) (ty := (.array .int)) (C := RX2) (T := TX2) (N := 6) hx hb hq i_X2 tyX2 tyX2_ok nmX2 hown hK hP hD hS 0 rfl rfl 2 (by decide) (hq _ q_91) (fun _ h9 => h9) rfl hin rfl (by decide +kernel) rfl rfl (Nat.le_of_ble_eq_true rfl) dX2_init_25 (fun H locs hP hD hS => ?_)
  have hP : va_P (dC, dI) cls [(h0, .inr (2, [.ref a_1, .ref a_3, .ref a_5, .int 0, .int 0, .int 0])), (a_1, .inl (cA_2, 7, .inl (fun _ => 0))), (a_3, .inl (cA_4, 7, .inl (fun _ => 0))), (a_5, .inl (cA_6, 7, .inl (fun _ => 0)))] H := hP
  have hD : va_D A [(h0, .inr (2, [.ref a_1, .ref a_3, .ref a_5, .int 0, .int 0, .int 0])), (a_1, .inl (cA_2, 7, .inl (fun _ => 0))), (a_3, .inl (cA_4, 7, .inl (fun _ => 0))), (a_5, .inl (cA_6, 7, .inl (fun _ => 0)))] := hD
  refine lv_aload_n hx hb dX2_init_28 rfl (lv_at hl 0 rfl) ?_
  refine lv_iconst (v := (-1)) hx hb dX2_init_29 (by decide) ?_
  refine va_put (D := (dC, dI)) (ci := 2) (v := .int (-1)) (ty := .int) (C := RX2) (T := TX2) (N := 6) hx hb hq i_X2 tyX2 tyX2_ok nmX2 hown hK hP hD hS 0 rfl rfl 4 (by decide) (hq _ q_96) (fun _ h9 => h9) rfl (by decide +kernel) rfl rfl (Nat.le_of_ble_eq_true rfl) dX2_init_30 (fun H locs hP hD hS => ?_)
  have hP : va_P (dC, dI) cls [(h0, .inr (2, [.ref a_1, .ref a_3, .ref a_5, .int 0, .int (-1), .int 0])), (a_1, .inl (cA_2, 7, .inl (fun _ => 0))), (a_3, .inl (cA_4, 7, .inl (fun _ => 0))), (a_5, .inl (cA_6, 7, .inl (fun _ => 0)))] H := hP
  have hD : va_D A [(h0, .inr (2, [.ref a_1, .ref a_3, .ref a_5, .int 0, .int (-1), .int 0])), (a_1, .inl (cA_2, 7, .inl (fun _ => 0))), (a_3, .inl (cA_4, 7, .inl (fun _ => 0))), (a_5, .inl (cA_6, 7, .inl (fun _ => 0)))] := hD
  refine lv_aload_n hx hb dX2_init_33 rfl (lv_at hl 0 rfl) ?_
  refine lv_iconst (v := (-1)) hx hb dX2_init_34 (by decide) ?_
  refine va_put (D := (dC, dI)) (ci := 2) (v := .int (-1)) (ty := .int) (C := RX2) (T := TX2) (N := 6) hx hb hq i_X2 tyX2 tyX2_ok nmX2 hown hK hP hD hS 0 rfl rfl 5 (by decide) (hq _ q_97) (fun _ h9 => h9) rfl (by decide +kernel) rfl rfl (Nat.le_of_ble_eq_true rfl) dX2_init_35 (fun H locs hP hD hS => ?_)
  have hP : va_P (dC, dI) cls [(h0, .inr (2, [.ref a_1, .ref a_3, .ref a_5, .int 0, .int (-1), .int (-1)])), (a_1, .inl (cA_2, 7, .inl (fun _ => 0))), (a_3, .inl (cA_4, 7, .inl (fun _ => 0))), (a_5, .inl (cA_6, 7, .inl (fun _ => 0)))] H := hP
  have hD : va_D A [(h0, .inr (2, [.ref a_1, .ref a_3, .ref a_5, .int 0, .int (-1), .int (-1)])), (a_1, .inl (cA_2, 7, .inl (fun _ => 0))), (a_3, .inl (cA_4, 7, .inl (fun _ => 0))), (a_5, .inl (cA_6, 7, .inl (fun _ => 0)))] := hD
  refine W.widen (k := 3) (n := 21) (Nat.le_of_ble_eq_true rfl) (Nat.le_of_ble_eq_true rfl) ?_
  have hP9 := hP.sub (ws' := [(h0, .inr (2, [.ref a_1, .ref a_3, .ref a_5, .int 0, .int (-1), .int (-1)]))]) [0] rfl
  have hD9 := hD.sub (ws' := [(h0, .inr (2, [.ref a_1, .ref a_3, .ref a_5, .int 0, .int (-1), .int (-1)]))]) [0] (by decide) rfl
  have hK9 := hK.sub (tys' := []) [] rfl
  exact W.vret hx hb hr (fun t ht hW => ⟨⟨(), rfl, trivial, ⟨a_1, a_3, a_5, by rw [ht]; exact hP9, va_K.moved hW.alike hK9, hD9⟩⟩, hS.F ht⟩) hS.2.2 dX2_init_38
abbrev cX7_init : ByteArray := prog_9_method_1_code
def yX7_init : MethodName := ⟨RX7, "<init>", "()V"⟩
theorem dX7_init_0 : decode cX7_init 0 = .ok (.aload_n 0, 1) := by decide +kernel
theorem dX7_init_1 : decode cX7_init 1 = .ok (.invokespecial 3, 3) := by decide +kernel
theorem q_52 : (Cond.methodLink "NightfallVillage$Roles" 3 objectInit) ∈ tw := tw_in (i := 52) (by decide +kernel) (by decide +kernel)
theorem dX7_init_4 : decode cX7_init 4 = .ok (.aload_n 0, 1) := by decide +kernel
theorem dX7_init_5 : decode cX7_init 5 = .ok (.bipush 8, 2) := by decide +kernel
theorem dX7_init_7 : decode cX7_init 7 = .ok (.newarray .char, 2) := by decide +kernel
theorem dX7_init_9 : decode cX7_init 9 = .ok (.putfield 9, 3) := by decide +kernel
theorem q_53 : (Cond.fieldLink "NightfallVillage$Roles" 9 "NightfallVillage$Roles" "sides" "[C") ∈ tw := tw_in (i := 53) (by decide +kernel) (by decide +kernel)
theorem dX7_init_12 : decode cX7_init 12 = .ok (.aload_n 0, 1) := by decide +kernel
theorem dX7_init_13 : decode cX7_init 13 = .ok (.bipush 8, 2) := by decide +kernel
theorem dX7_init_15 : decode cX7_init 15 = .ok (.newarray .char, 2) := by decide +kernel
theorem dX7_init_17 : decode cX7_init 17 = .ok (.putfield 15, 3) := by decide +kernel
theorem q_54 : (Cond.fieldLink "NightfallVillage$Roles" 15 "NightfallVillage$Roles" "acts" "[C") ∈ tw := tw_in (i := 54) (by decide +kernel) (by decide +kernel)
theorem dX7_init_20 : decode cX7_init 20 = .ok (.aload_n 0, 1) := by decide +kernel
theorem dX7_init_21 : decode cX7_init 21 = .ok (.bipush 8, 2) := by decide +kernel
theorem dX7_init_23 : decode cX7_init 23 = .ok (.newarray .int, 2) := by decide +kernel
theorem dX7_init_25 : decode cX7_init 25 = .ok (.putfield 18, 3) := by decide +kernel
theorem q_55 : (Cond.fieldLink "NightfallVillage$Roles" 18 "NightfallVillage$Roles" "weights" "[I") ∈ tw := tw_in (i := 55) (by decide +kernel) (by decide +kernel)
theorem dX7_init_28 : decode cX7_init 28 = .ok (.aload_n 0, 1) := by decide +kernel
theorem dX7_init_29 : decode cX7_init 29 = .ok (.bipush 8, 2) := by decide +kernel
theorem dX7_init_31 : decode cX7_init 31 = .ok (.newarray .boolean, 2) := by decide +kernel
theorem dX7_init_33 : decode cX7_init 33 = .ok (.putfield 22, 3) := by decide +kernel
theorem q_56 : (Cond.fieldLink "NightfallVillage$Roles" 22 "NightfallVillage$Roles" "once" "[Z") ∈ tw := tw_in (i := 56) (by decide +kernel) (by decide +kernel)
theorem dX7_init_36 : decode cX7_init 36 = .ok (.aload_n 0, 1) := by decide +kernel
theorem dX7_init_37 : decode cX7_init 37 = .ok (.bipush 8, 2) := by decide +kernel
theorem dX7_init_39 : decode cX7_init 39 = .ok (.newarray .boolean, 2) := by decide +kernel
theorem dX7_init_41 : decode cX7_init 41 = .ok (.putfield 26, 3) := by decide +kernel
theorem q_57 : (Cond.fieldLink "NightfallVillage$Roles" 26 "NightfallVillage$Roles" "fools" "[Z") ∈ tw := tw_in (i := 57) (by decide +kernel) (by decide +kernel)
theorem dX7_init_44 : decode cX7_init 44 = .ok (.aload_n 0, 1) := by decide +kernel
theorem dX7_init_45 : decode cX7_init 45 = .ok (.bipush 8, 2) := by decide +kernel
theorem dX7_init_47 : decode cX7_init 47 = .ok (.newarray .boolean, 2) := by decide +kernel
theorem dX7_init_49 : decode cX7_init 49 = .ok (.putfield 29, 3) := by decide +kernel
theorem q_58 : (Cond.fieldLink "NightfallVillage$Roles" 29 "NightfallVillage$Roles" "hunters" "[Z") ∈ tw := tw_in (i := 58) (by decide +kernel) (by decide +kernel)
theorem dX7_init_52 : decode cX7_init 52 = .ok (.aload_n 0, 1) := by decide +kernel
theorem dX7_init_53 : decode cX7_init 53 = .ok (.bipush 8, 2) := by decide +kernel
theorem dX7_init_55 : decode cX7_init 55 = .ok (.newarray .int, 2) := by decide +kernel
theorem dX7_init_57 : decode cX7_init 57 = .ok (.putfield 32, 3) := by decide +kernel
theorem q_59 : (Cond.fieldLink "NightfallVillage$Roles" 32 "NightfallVillage$Roles" "looks" "[I") ∈ tw := tw_in (i := 59) (by decide +kernel) (by decide +kernel)
theorem dX7_init_60 : decode cX7_init 60 = .ok (.return_, 1) := by decide +kernel
set_option maxHeartbeats 4000000 in
set_option maxRecDepth 100000 in
theorem c_Roles_init (l : Launch) (hst : l.stackTraces = false) (tE : Nat) (adK adV : Nat → Nat) (dC : Nat → ClassId) (dI : Nat → Nat → Nat) (h0 : Nat) (sz : Nat) : Met l yX7_init (Cond.code yX7_init cX7_init 1 none :: tw) ({ frames := 1, cells := 7, slots := 56, locals := 12 }) (va_Pc [.ref h0] (pre tE adK adV (dC, dI) [(h0, .inr (7, [.null, .null, .null, .null, .null, .null, .null, .int 0]))] [] sz)) (va_Qv (fun (_ : Unit) => True) (fun (_ : Unit) (t : State) => ∃ (q1 : Nat) (q2 : Nat) (q3 : Nat) (q4 : Nat) (q5 : Nat) (q6 : Nat) (q7 : Nat) (k1 : ClassId) (k2 : ClassId) (k3 : ClassId) (k4 : ClassId) (k5 : ClassId) (k6 : ClassId) (k7 : ClassId), va_P (dC, dI) cls [(h0, .inr (7, [.ref q1, .ref q2, .ref q3, .ref q4, .ref q5, .ref q6, .ref q7, .int 0])), (q1, .inl (k1, 8, .inl (fun _ => 0))), (q2, .inl (k2, 8, .inl (fun _ => 0))), (q3, .inl (k3, 8, .inl (fun _ => 0))), (q4, .inl (k4, 8, .inl (fun _ => 0))), (q5, .inl (k5, 8, .inl (fun _ => 0))), (q6, .inl (k6, 8, .inl (fun _ => 0))), (q7, .inl (k7, 8, .inl (fun _ => 0)))] t.heap ∧ va_K (dC, dI) cls [(k1, .char), (k2, .char), (k3, .int), (k4, .boolean), (k5, .boolean), (k6, .boolean), (k7, .int)] t ∧ va_D (va_A [(h0, .inr (7, [.null, .null, .null, .null, .null, .null, .null, .int 0]))] sz) [(h0, .inr (7, [.ref q1, .ref q2, .ref q3, .ref q4, .ref q5, .ref q6, .ref q7, .int 0])), (q1, .inl (k1, 8, .inl (fun _ => 0))), (q2, .inl (k2, 8, .inl (fun _ => 0))), (q3, .inl (k3, 8, .inl (fun _ => 0))), (q4, .inl (k4, 8, .inl (fun _ => 0))), (q5, .inl (k5, 8, .inl (fun _ => 0))), (q6, .inl (k6, 8, .inl (fun _ => 0))), (q7, .inl (k7, 8, .inl (fun _ => 0)))]) (va_A [(h0, .inr (7, [.null, .null, .null, .null, .null, .null, .null, .int 0]))] sz)) 7 56 (va_A [(h0, .inr (7, [.null, .null, .null, .null, .null, .null, .null, .int 0]))] sz) := by
  refine Met.ofW (cc := cX7_init) (maxL := 1) (ret := none) (by decide) rfl ?_
  intro p e s m args below meth c s₁ B hml hv
  obtain ⟨rfl, hsz, hP, hK, hD0, ham⟩ := hv
  have hx := B.exec
  have hb := B.bytes
  have hr := B.returns
  have hts := atoms_spec B.pre
  have hq : ∀ w ∈ tw, w.before _ s = true := fun w h => hts w (List.mem_cons_of_mem _ h)
  have hown : s.vm.findClass RX7 = some m.cls := findClass_of_methodNamed B.named
  have hlocks := B.notSynchronized
  have hin : meth.name = "<init>" := (name_of_methodNamed B.named B.method).1
  subst hsz
  have hD := hD0.self (sz := s.heap.size)
  generalize hAe : va_A [(h0, .inr (7, [.null, .null, .null, .null, .null, .null, .null, .int 0]))] s.heap.size = A at hD ham ⊢
  have hA : ∀ q : Nat, s.heap.size ≤ q → A q := fun q h => by rw [← hAe]; exact Or.inr h
  have hS : va_S A s.heap s.heap [] := va_S.rf
  have hP : va_P (dC, dI) cls [(h0, .inr (7, [.null, .null, .null, .null, .null, .null, .null, .int 0]))] s.heap := hP
  have hl := lv_entry ([.ref h0]) (n := 1) (Nat.le_of_ble_eq_true rfl)
  rw [lg_entry_eq]
  generalize (lg_sl ([.ref h0]) ++ List.replicate (1 - (lg_sl ([.ref h0])).length) Slot.unset).toArray = ls at hl ⊢
  have hl : lv_has ls 1 [(0, .ref h0)] := hl
  refine lv_aload_n hx hb dX7_init_0 rfl (lv_at hl 0 rfl) ?_
  refine W.objInit hx hb hown (hq _ q_52) (hq _ q_45) (hq _ q_46) rfl (by rw [hml]; exact hl.1) rfl dX7_init_1 (Nat.le_of_ble_eq_true rfl) (Nat.le_of_ble_eq_true rfl) ?_
  refine W.eq (g2 := F0 m 4 ls []) rfl ?_
  refine lv_aload_n hx hb dX7_init_4 rfl (lv_at hl 0 rfl) ?_
  refine lv_bipush (v := 8) hx hb dX7_init_5 (by decide) ?_
  refine va_newa (atype := .char) (a0 := (8, .inl (fun _ => 0))) hx hb (hq _ q_80) rfl hK hP hD hS hA (fun _ => rfl) (by decide) (by decide) (Nat.le_of_ble_eq_true rfl) (Nat.le_of_ble_eq_true rfl) (Nat.le_of_ble_eq_true rfl) dX7_init_7 (fun a_1 cA_2 H hK hP hD hS => ?_)
  have hP : va_P (dC, dI) cls [(h0, .inr (7, [.null, .null, .null, .null, .null, .null, .null, .int 0])), (a_1, .inl (cA_2, 8, .inl (fun _ => 0)))] H := hP
  have hD : va_D A [(h0, .inr (7, [.null, .null, .null, .null, .null, .null, .null, .int 0])), (a_1, .inl (cA_2, 8, .inl (fun _ => 0)))] := hD
  have hK : va_K (dC, dI) cls [(cA_2, .char)] s := hK
  refine W.widen (k := 1) (n := 8) (Nat.le_of_ble_eq_true rfl) (Nat.le_of_ble_eq_true rfl) ?_
  refine va_putF (D := (dC, dI)) (ci := 7) (v := .ref a_1) (ty := (.array .char)) (C := RX7) (T := TX7) (N := 8) hx hb hq i_X7 tyX7 tyX7_ok nmX7 hown hK hP hD hS 0 rfl rfl 0 (by decide) (hq _ q_53) (fun _ h9 => h9) rfl hin rfl (by decide +kernel) rfl rfl (Nat.le_of_ble_eq_true rfl) dX7_init_9 (fun H locs hP hD hS => ?_)
  have hP : va_P (dC, dI) cls [(h0, .inr (7, [.ref a_1, .null, .null, .null, .null, .null, .null, .int 0])), (a_1, .inl (cA_2, 8, .inl (fun _ => 0)))] H := hP
  have hD : va_D A [(h0, .inr (7, [.ref a_1, .null, .null, .null, .null, .null, .null, .int 0])), (a_1, .inl (cA_2, 8, .inl (fun _ => 0)))] := hD
  refine lv_aload_n hx hb dX7_init_12 rfl (lv_at hl 0 rfl) ?_
  refine lv_bipush (v := 8) hx hb dX7_init_13 (by decide) ?_
  refine va_newa (atype := .char) (a0 := (8, .inl (fun _ => 0))) hx hb (hq _ q_80) rfl hK hP hD hS hA (fun _ => rfl) (by decide) (by decide) (Nat.le_of_ble_eq_true rfl) (Nat.le_of_ble_eq_true rfl) (Nat.le_of_ble_eq_true rfl) dX7_init_15 (fun a_3 cA_4 H hK hP hD hS => ?_)
  have hP : va_P (dC, dI) cls [(h0, .inr (7, [.ref a_1, .null, .null, .null, .null, .null, .null, .int 0])), (a_1, .inl (cA_2, 8, .inl (fun _ => 0))), (a_3, .inl (cA_4, 8, .inl (fun _ => 0)))] H := hP
  have hD : va_D A [(h0, .inr (7, [.ref a_1, .null, .null, .null, .null, .null, .null, .int 0])), (a_1, .inl (cA_2, 8, .inl (fun _ => 0))), (a_3, .inl (cA_4, 8, .inl (fun _ => 0)))] := hD
  have hK : va_K (dC, dI) cls [(cA_2, .char), (cA_4, .char)] s := hK
  refine W.widen (k := 2) (n := 16) (Nat.le_of_ble_eq_true rfl) (Nat.le_of_ble_eq_true rfl) ?_
  refine va_putF (D := (dC, dI)) (ci := 7) (v := .ref a_3) (ty := (.array .char)) (C := RX7) (T := TX7) (N := 8) hx hb hq i_X7 tyX7 tyX7_ok nmX7 hown hK hP hD hS 0 rfl rfl 1 (by decide) (hq _ q_54) (fun _ h9 => h9) rfl hin rfl (by decide +kernel) rfl rfl (Nat.le_of_ble_eq_true rfl) dX7_init_17 (fun H locs hP hD hS => ?_)
  have hP : va_P (dC, dI) cls [(h0, .inr (7, [.ref a_1, .ref a_3, .null, .null, .null, .null, .null, .int 0])), (a_1, .inl (cA_2, 8, .inl (fun _ => 0))), (a_3, .inl (cA_4, 8, .inl (fun _ => 0)))] H := hP
  have hD : va_D A [(h0, .inr (7, [.ref a_1, .ref a_3, .null, .null, .null, .null, .null, .int 0])), (a_1, .inl (cA_2, 8, .inl (fun _ => 0))), (a_3, .inl (cA_4, 8, .inl (fun _ => 0)))] := hD
  refine lv_aload_n hx hb dX7_init_20 rfl (lv_at hl 0 rfl) ?_
  refine lv_bipush (v := 8) hx hb dX7_init_21 (by decide) ?_
  refine va_newa (atype := .int) (a0 := (8, .inl (fun _ => 0))) hx hb (hq _ q_81) rfl hK hP hD hS hA (fun _ => rfl) (by decide) (by decide) (Nat.le_of_ble_eq_true rfl) (Nat.le_of_ble_eq_true rfl) (Nat.le_of_ble_eq_true rfl) dX7_init_23 (fun a_5 cA_6 H hK hP hD hS => ?_)
  have hP : va_P (dC, dI) cls [(h0, .inr (7, [.ref a_1, .ref a_3, .null, .null, .null, .null, .null, .int 0])), (a_1, .inl (cA_2, 8, .inl (fun _ => 0))), (a_3, .inl (cA_4, 8, .inl (fun _ => 0))), (a_5, .inl (cA_6, 8, .inl (fun _ => 0)))] H := hP
  have hD : va_D A [(h0, .inr (7, [.ref a_1, .ref a_3, .null, .null, .null, .null, .null, .int 0])), (a_1, .inl (cA_2, 8, .inl (fun _ => 0))), (a_3, .inl (cA_4, 8, .inl (fun _ => 0))), (a_5, .inl (cA_6, 8, .inl (fun _ => 0)))] := hD
  have hK : va_K (dC, dI) cls [(cA_2, .char), (cA_4, .char), (cA_6, .int)] s := hK
  refine W.widen (k := 3) (n := 24) (Nat.le_of_ble_eq_true rfl) (Nat.le_of_ble_eq_true rfl) ?_
  refine va_putF (D := (dC, dI)) (ci := 7) (v := .ref a_5) (ty := (.array .int)) (C := RX7) (T := TX7) (N := 8) hx hb hq i_X7 tyX7 tyX7_ok nmX7 hown hK hP hD hS 0 rfl rfl 2 (by decide) (hq _ q_55) (fun _ h9 => h9) rfl hin rfl (by decide +kernel) rfl rfl (Nat.le_of_ble_eq_true rfl) dX7_init_25 (fun H locs hP hD hS => ?_)
  have hP : va_P (dC, dI) cls [(h0, .inr (7, [.ref a_1, .ref a_3, .ref a_5, .null, .null, .null, .null, .int 0])), (a_1, .inl (cA_2, 8, .inl (fun _ => 0))), (a_3, .inl (cA_4, 8, .inl (fun _ => 0))), (a_5, .inl (cA_6, 8, .inl (fun _ => 0)))] H := hP
  have hD : va_D A [(h0, .inr (7, [.ref a_1, .ref a_3, .ref a_5, .null, .null, .null, .null, .int 0])), (a_1, .inl (cA_2, 8, .inl (fun _ => 0))), (a_3, .inl (cA_4, 8, .inl (fun _ => 0))), (a_5, .inl (cA_6, 8, .inl (fun _ => 0)))] := hD
  refine lv_aload_n hx hb dX7_init_28 rfl (lv_at hl 0 rfl) ?_
  refine lv_bipush (v := 8) hx hb dX7_init_29 (by decide) ?_
  refine va_newa (atype := .boolean) (a0 := (8, .inl (fun _ => 0))) hx hb (hq _ q_82) rfl hK hP hD hS hA (fun _ => rfl) (by decide) (by decide) (Nat.le_of_ble_eq_true rfl) (Nat.le_of_ble_eq_true rfl) (Nat.le_of_ble_eq_true rfl) dX7_init_31 (fun a_7 cA_8 H hK hP hD hS => ?_)
  have hP : va_P (dC, dI) cls [(h0, .inr (7, [.ref a_1, .ref a_3, .ref a_5, .null, .null, .null, .null, .int 0])), (a_1, .inl (cA_2, 8, .inl (fun _ => 0))), (a_3, .inl (cA_4, 8, .inl (fun _ => 0))), (a_5, .inl (cA_6, 8, .inl (fun _ => 0))), (a_7, .inl (cA_8, 8, .inl (fun _ => 0)))] H := hP
  have hD : va_D A [(h0, .inr (7, [.ref a_1, .ref a_3, .ref a_5, .null, .null, .null, .null, .int 0])), (a_1, .inl (cA_2, 8, .inl (fun _ => 0))), (a_3, .inl (cA_4, 8, .inl (fun _ => 0))), (a_5, .inl (cA_6, 8, .inl (fun _ => 0))), (a_7, .inl (cA_8, 8, .inl (fun _ => 0)))] := hD
  have hK : va_K (dC, dI) cls [(cA_2, .char), (cA_4, .char), (cA_6, .int), (cA_8, .boolean)] s := hK
  refine W.widen (k := 4) (n := 32) (Nat.le_of_ble_eq_true rfl) (Nat.le_of_ble_eq_true rfl) ?_
  refine va_putF (D := (dC, dI)) (ci := 7) (v := .ref a_7) (ty := (.array .boolean)) (C := RX7) (T := TX7) (N := 8) hx hb hq i_X7 tyX7 tyX7_ok nmX7 hown hK hP hD hS 0 rfl rfl 3 (by decide) (hq _ q_56) (fun _ h9 => h9) rfl hin rfl (by decide +kernel) rfl rfl (Nat.le_of_ble_eq_true rfl) dX7_init_33 (fun H locs hP hD hS => ?_)
  have hP : va_P (dC, dI) cls [(h0, .inr (7, [.ref a_1, .ref a_3, .ref a_5, .ref a_7, .null, .null, .null, .int 0])), (a_1, .inl (cA_2, 8, .inl (fun _ => 0))), (a_3, .inl (cA_4, 8, .inl (fun _ => 0))), (a_5, .inl (cA_6, 8, .inl (fun _ => 0))), (a_7, .inl (cA_8, 8, .inl (fun _ => 0)))] H := hP
  have hD : va_D A [(h0, .inr (7, [.ref a_1, .ref a_3, .ref a_5, .ref a_7, .null, .null, .null, .int 0])), (a_1, .inl (cA_2, 8, .inl (fun _ => 0))), (a_3, .inl (cA_4, 8, .inl (fun _ => 0))), (a_5, .inl (cA_6, 8, .inl (fun _ => 0))), (a_7, .inl (cA_8, 8, .inl (fun _ => 0)))] := hD
  refine lv_aload_n hx hb dX7_init_36 rfl (lv_at hl 0 rfl) ?_
  refine lv_bipush (v := 8) hx hb dX7_init_37 (by decide) ?_
  refine va_newa (atype := .boolean) (a0 := (8, .inl (fun _ => 0))) hx hb (hq _ q_82) rfl hK hP hD hS hA (fun _ => rfl) (by decide) (by decide) (Nat.le_of_ble_eq_true rfl) (Nat.le_of_ble_eq_true rfl) (Nat.le_of_ble_eq_true rfl) dX7_init_39 (fun a_9 cA_10 H hK hP hD hS => ?_)
  have hP : va_P (dC, dI) cls [(h0, .inr (7, [.ref a_1, .ref a_3, .ref a_5, .ref a_7, .null, .null, .null, .int 0])), (a_1, .inl (cA_2, 8, .inl (fun _ => 0))), (a_3, .inl (cA_4, 8, .inl (fun _ => 0))), (a_5, .inl (cA_6, 8, .inl (fun _ => 0))), (a_7, .inl (cA_8, 8, .inl (fun _ => 0))), (a_9, .inl (cA_10, 8, .inl (fun _ => 0)))] H := hP
  have hD : va_D A [(h0, .inr (7, [.ref a_1, .ref a_3, .ref a_5, .ref a_7, .null, .null, .null, .int 0])), (a_1, .inl (cA_2, 8, .inl (fun _ => 0))), (a_3, .inl (cA_4, 8, .inl (fun _ => 0))), (a_5, .inl (cA_6, 8, .inl (fun _ => 0))), (a_7, .inl (cA_8, 8, .inl (fun _ => 0))), (a_9, .inl (cA_10, 8, .inl (fun _ => 0)))] := hD
  have hK : va_K (dC, dI) cls [(cA_2, .char), (cA_4, .char), (cA_6, .int), (cA_8, .boolean), (cA_10, .boolean)] s := hK
  refine W.widen (k := 5) (n := 40) (Nat.le_of_ble_eq_true rfl) (Nat.le_of_ble_eq_true rfl) ?_
  refine va_putF (D := (dC, dI)) (ci := 7) (v := .ref a_9) (ty := (.array .boolean)) (C := RX7) (T := TX7) (N := 8) hx hb hq i_X7 tyX7 tyX7_ok nmX7 hown hK hP hD hS 0 rfl rfl 4 (by decide) (hq _ q_57) (fun _ h9 => h9) rfl hin rfl (by decide +kernel) rfl rfl (Nat.le_of_ble_eq_true rfl) dX7_init_41 (fun H locs hP hD hS => ?_)
  have hP : va_P (dC, dI) cls [(h0, .inr (7, [.ref a_1, .ref a_3, .ref a_5, .ref a_7, .ref a_9, .null, .null, .int 0])), (a_1, .inl (cA_2, 8, .inl (fun _ => 0))), (a_3, .inl (cA_4, 8, .inl (fun _ => 0))), (a_5, .inl (cA_6, 8, .inl (fun _ => 0))), (a_7, .inl (cA_8, 8, .inl (fun _ => 0))), (a_9, .inl (cA_10, 8, .inl (fun _ => 0)))] H := hP
  have hD : va_D A [(h0, .inr (7, [.ref a_1, .ref a_3, .ref a_5, .ref a_7, .ref a_9, .null, .null, .int 0])), (a_1, .inl (cA_2, 8, .inl (fun _ => 0))), (a_3, .inl (cA_4, 8, .inl (fun _ => 0))), (a_5, .inl (cA_6, 8, .inl (fun _ => 0))), (a_7, .inl (cA_8, 8, .inl (fun _ => 0))), (a_9, .inl (cA_10, 8, .inl (fun _ => 0)))] := hD
  refine lv_aload_n hx hb dX7_init_44 rfl (lv_at hl 0 rfl) ?_
  refine lv_bipush (v := 8) hx hb dX7_init_45 (by decide) ?_
  refine va_newa (atype := .boolean) (a0 := (8, .inl (fun _ => 0))) hx hb (hq _ q_82) rfl hK hP hD hS hA (fun _ => rfl) (by decide) (by decide) (Nat.le_of_ble_eq_true rfl) (Nat.le_of_ble_eq_true rfl) (Nat.le_of_ble_eq_true rfl) dX7_init_47 (fun a_11 cA_12 H hK hP hD hS => ?_)
  have hP : va_P (dC, dI) cls [(h0, .inr (7, [.ref a_1, .ref a_3, .ref a_5, .ref a_7, .ref a_9, .null, .null, .int 0])), (a_1, .inl (cA_2, 8, .inl (fun _ => 0))), (a_3, .inl (cA_4, 8, .inl (fun _ => 0))), (a_5, .inl (cA_6, 8, .inl (fun _ => 0))), (a_7, .inl (cA_8, 8, .inl (fun _ => 0))), (a_9, .inl (cA_10, 8, .inl (fun _ => 0))), (a_11, .inl (cA_12, 8, .inl (fun _ => 0)))] H := hP
  have hD : va_D A [(h0, .inr (7, [.ref a_1, .ref a_3, .ref a_5, .ref a_7, .ref a_9, .null, .null, .int 0])), (a_1, .inl (cA_2, 8, .inl (fun _ => 0))), (a_3, .inl (cA_4, 8, .inl (fun _ => 0))), (a_5, .inl (cA_6, 8, .inl (fun _ => 0))), (a_7, .inl (cA_8, 8, .inl (fun _ => 0))), (a_9, .inl (cA_10, 8, .inl (fun _ => 0))), (a_11, .inl (cA_12, 8, .inl (fun _ => 0)))] := hD
  have hK : va_K (dC, dI) cls [(cA_2, .char), (cA_4, .char), (cA_6, .int), (cA_8, .boolean), (cA_10, .boolean), (cA_12, .boolean)] s := hK
  refine W.widen (k := 6) (n := 48) (Nat.le_of_ble_eq_true rfl) (Nat.le_of_ble_eq_true rfl) ?_
  refine va_putF (D := (dC, dI)) (ci := 7) (v := .ref a_11) (ty := (.array .boolean)) (C := RX7) (T := TX7) (N := 8) hx hb hq i_X7 tyX7 tyX7_ok nmX7 hown hK hP hD hS 0 rfl rfl 5 (by decide) (hq _ q_58) (fun _ h9 => h9) rfl hin rfl (by decide +kernel) rfl rfl (Nat.le_of_ble_eq_true rfl) dX7_init_49 (fun H locs hP hD hS => ?_)
  have hP : va_P (dC, dI) cls [(h0, .inr (7, [.ref a_1, .ref a_3, .ref a_5, .ref a_7, .ref a_9, .ref a_11, .null, .int 0])), (a_1, .inl (cA_2, 8, .inl (fun _ => 0))), (a_3, .inl (cA_4, 8, .inl (fun _ => 0))), (a_5, .inl (cA_6, 8, .inl (fun _ => 0))), (a_7, .inl (cA_8, 8, .inl (fun _ => 0))), (a_9, .inl (cA_10, 8, .inl (fun _ => 0))), (a_11, .inl (cA_12, 8, .inl (fun _ => 0)))] H := hP
  have hD : va_D A [(h0, .inr (7, [.ref a_1, .ref a_3, .ref a_5, .ref a_7, .ref a_9, .ref a_11, .null, .int 0])), (a_1, .inl (cA_2, 8, .inl (fun _ => 0))), (a_3, .inl (cA_4, 8, .inl (fun _ => 0))), (a_5, .inl (cA_6, 8, .inl (fun _ => 0))), (a_7, .inl (cA_8, 8, .inl (fun _ => 0))), (a_9, .inl (cA_10, 8, .inl (fun _ => 0))), (a_11, .inl (cA_12, 8, .inl (fun _ => 0)))] := hD
  refine lv_aload_n hx hb dX7_init_52 rfl (lv_at hl 0 rfl) ?_
  refine lv_bipush (v := 8) hx hb dX7_init_53 (by decide) ?_
  refine va_newa (atype := .int) (a0 := (8, .inl (fun _ => 0))) hx hb (hq _ q_81) rfl hK hP hD hS hA (fun _ => rfl) (by decide) (by decide) (Nat.le_of_ble_eq_true rfl) (Nat.le_of_ble_eq_true rfl) (Nat.le_of_ble_eq_true rfl) dX7_init_55 (fun a_13 cA_14 H hK hP hD hS => ?_)
  have hP : va_P (dC, dI) cls [(h0, .inr (7, [.ref a_1, .ref a_3, .ref a_5, .ref a_7, .ref a_9, .ref a_11, .null, .int 0])), (a_1, .inl (cA_2, 8, .inl (fun _ => 0))), (a_3, .inl (cA_4, 8, .inl (fun _ => 0))), (a_5, .inl (cA_6, 8, .inl (fun _ => 0))), (a_7, .inl (cA_8, 8, .inl (fun _ => 0))), (a_9, .inl (cA_10, 8, .inl (fun _ => 0))), (a_11, .inl (cA_12, 8, .inl (fun _ => 0))), (a_13, .inl (cA_14, 8, .inl (fun _ => 0)))] H := hP
  have hD : va_D A [(h0, .inr (7, [.ref a_1, .ref a_3, .ref a_5, .ref a_7, .ref a_9, .ref a_11, .null, .int 0])), (a_1, .inl (cA_2, 8, .inl (fun _ => 0))), (a_3, .inl (cA_4, 8, .inl (fun _ => 0))), (a_5, .inl (cA_6, 8, .inl (fun _ => 0))), (a_7, .inl (cA_8, 8, .inl (fun _ => 0))), (a_9, .inl (cA_10, 8, .inl (fun _ => 0))), (a_11, .inl (cA_12, 8, .inl (fun _ => 0))), (a_13, .inl (cA_14, 8, .inl (fun _ => 0)))] := hD
  have hK : va_K (dC, dI) cls [(cA_2, .char), (cA_4, .char), (cA_6, .int), (cA_8, .boolean), (cA_10, .boolean), (cA_12, .boolean), (cA_14, .int)] s := hK
  refine W.widen (k := 7) (n := 56) (Nat.le_of_ble_eq_true rfl) (Nat.le_of_ble_eq_true rfl) ?_
  refine va_putF (D := (dC, dI)) (ci := 7) (v := .ref a_13) (ty := (.array .int)) (C := RX7) (T := TX7) (N := 8) hx hb hq i_X7 tyX7 tyX7_ok nmX7 hown hK hP hD hS 0 rfl rfl 6 (by decide) (hq _ q_59) (fun _ h9 => h9) rfl hin rfl (by decide +kernel) rfl rfl (Nat.le_of_ble_eq_true rfl) dX7_init_57 (fun H locs hP hD hS => ?_)
  have hP : va_P (dC, dI) cls [(h0, .inr (7, [.ref a_1, .ref a_3, .ref a_5, .ref a_7, .ref a_9, .ref a_11, .ref a_13, .int 0])), (a_1, .inl (cA_2, 8, .inl (fun _ => 0))), (a_3, .inl (cA_4, 8, .inl (fun _ => 0))), (a_5, .inl (cA_6, 8, .inl (fun _ => 0))), (a_7, .inl (cA_8, 8, .inl (fun _ => 0))), (a_9, .inl (cA_10, 8, .inl (fun _ => 0))), (a_11, .inl (cA_12, 8, .inl (fun _ => 0))), (a_13, .inl (cA_14, 8, .inl (fun _ => 0)))] H := hP
  have hD : va_D A [(h0, .inr (7, [.ref a_1, .ref a_3, .ref a_5, .ref a_7, .ref a_9, .ref a_11, .ref a_13, .int 0])), (a_1, .inl (cA_2, 8, .inl (fun _ => 0))), (a_3, .inl (cA_4, 8, .inl (fun _ => 0))), (a_5, .inl (cA_6, 8, .inl (fun _ => 0))), (a_7, .inl (cA_8, 8, .inl (fun _ => 0))), (a_9, .inl (cA_10, 8, .inl (fun _ => 0))), (a_11, .inl (cA_12, 8, .inl (fun _ => 0))), (a_13, .inl (cA_14, 8, .inl (fun _ => 0)))] := hD
  refine W.widen (k := 7) (n := 56) (Nat.le_of_ble_eq_true rfl) (Nat.le_of_ble_eq_true rfl) ?_
  have hP9 := hP.sub (ws' := [(h0, .inr (7, [.ref a_1, .ref a_3, .ref a_5, .ref a_7, .ref a_9, .ref a_11, .ref a_13, .int 0])), (a_1, .inl (cA_2, 8, .inl (fun _ => 0))), (a_3, .inl (cA_4, 8, .inl (fun _ => 0))), (a_5, .inl (cA_6, 8, .inl (fun _ => 0))), (a_7, .inl (cA_8, 8, .inl (fun _ => 0))), (a_9, .inl (cA_10, 8, .inl (fun _ => 0))), (a_11, .inl (cA_12, 8, .inl (fun _ => 0))), (a_13, .inl (cA_14, 8, .inl (fun _ => 0)))]) [0, 1, 2, 3, 4, 5, 6, 7] rfl
  have hD9 := hD.sub (ws' := [(h0, .inr (7, [.ref a_1, .ref a_3, .ref a_5, .ref a_7, .ref a_9, .ref a_11, .ref a_13, .int 0])), (a_1, .inl (cA_2, 8, .inl (fun _ => 0))), (a_3, .inl (cA_4, 8, .inl (fun _ => 0))), (a_5, .inl (cA_6, 8, .inl (fun _ => 0))), (a_7, .inl (cA_8, 8, .inl (fun _ => 0))), (a_9, .inl (cA_10, 8, .inl (fun _ => 0))), (a_11, .inl (cA_12, 8, .inl (fun _ => 0))), (a_13, .inl (cA_14, 8, .inl (fun _ => 0)))]) [0, 1, 2, 3, 4, 5, 6, 7] (by decide) rfl
  have hK9 := hK.sub (tys' := [(cA_2, .char), (cA_4, .char), (cA_6, .int), (cA_8, .boolean), (cA_10, .boolean), (cA_12, .boolean), (cA_14, .int)]) [0, 1, 2, 3, 4, 5, 6] rfl
  exact W.vret hx hb hr (fun t ht hW => ⟨⟨(), rfl, trivial, ⟨a_1, a_3, a_5, a_7, a_9, a_11, a_13, cA_2, cA_4, cA_6, cA_8, cA_10, cA_12, cA_14, by rw [ht]; exact hP9, va_K.moved hW.alike hK9, hD9⟩⟩, hS.F ht⟩) hS.2.2 dX7_init_60
