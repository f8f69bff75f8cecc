abbrev cX3_init : ByteArray := prog_5_method_1_code
def yX3_init : MethodName := ⟨RX3, "<init>", "(LNightfallVillage$Roles;LNightfallVillage$Deal;)V"⟩
theorem dX3_init_0 : decode cX3_init 0 = .ok (.aload_n 0, 1) := by decide +kernel
theorem dX3_init_1 : decode cX3_init 1 = .ok (.invokespecial 3, 3) := by decide +kernel
theorem q_122 : (Cond.methodLink "NightfallVillage$Folk" 3 objectInit) ∈ tw := tw_in (i := 122) (by decide +kernel) (by decide +kernel)
theorem dX3_init_4 : decode cX3_init 4 = .ok (.aload_n 0, 1) := by decide +kernel
theorem dX3_init_5 : decode cX3_init 5 = .ok (.bipush 7, 2) := by decide +kernel
theorem dX3_init_7 : decode cX3_init 7 = .ok (.newarray .int, 2) := by decide +kernel
theorem dX3_init_9 : decode cX3_init 9 = .ok (.putfield 9, 3) := by decide +kernel
theorem q_125 : (Cond.fieldLink "NightfallVillage$Folk" 9 "NightfallVillage$Folk" "held" "[I") ∈ tw := tw_in (i := 125) (by decide +kernel) (by decide +kernel)
theorem dX3_init_12 : decode cX3_init 12 = .ok (.aload_n 0, 1) := by decide +kernel
theorem dX3_init_13 : decode cX3_init 13 = .ok (.bipush 7, 2) := by decide +kernel
theorem dX3_init_15 : decode cX3_init 15 = .ok (.newarray .boolean, 2) := by decide +kernel
theorem dX3_init_17 : decode cX3_init 17 = .ok (.putfield 15, 3) := by decide +kernel
theorem q_126 : (Cond.fieldLink "NightfallVillage$Folk" 15 "NightfallVillage$Folk" "usedUp" "[Z") ∈ tw := tw_in (i := 126) (by decide +kernel) (by decide +kernel)
theorem dX3_init_20 : decode cX3_init 20 = .ok (.aload_n 0, 1) := by decide +kernel
theorem dX3_init_21 : decode cX3_init 21 = .ok (.bipush 7, 2) := by decide +kernel
theorem dX3_init_23 : decode cX3_init 23 = .ok (.newarray .char, 2) := by decide +kernel
theorem dX3_init_25 : decode cX3_init 25 = .ok (.putfield 19, 3) := by decide +kernel
theorem q_127 : (Cond.fieldLink "NightfallVillage$Folk" 19 "NightfallVillage$Folk" "causes" "[C") ∈ tw := tw_in (i := 127) (by decide +kernel) (by decide +kernel)
theorem dX3_init_28 : decode cX3_init 28 = .ok (.aload_n 0, 1) := by decide +kernel
theorem dX3_init_29 : decode cX3_init 29 = .ok (.bipush 7, 2) := by decide +kernel
theorem dX3_init_31 : decode cX3_init 31 = .ok (.newarray .int, 2) := by decide +kernel
theorem dX3_init_33 : decode cX3_init 33 = .ok (.putfield 23, 3) := by decide +kernel
theorem q_128 : (Cond.fieldLink "NightfallVillage$Folk" 23 "NightfallVillage$Folk" "marks" "[I") ∈ tw := tw_in (i := 128) (by decide +kernel) (by decide +kernel)
theorem dX3_init_36 : decode cX3_init 36 = .ok (.aload_n 0, 1) := by decide +kernel
theorem dX3_init_37 : decode cX3_init 37 = .ok (.bipush 7, 2) := by decide +kernel
theorem dX3_init_39 : decode cX3_init 39 = .ok (.newarray .int, 2) := by decide +kernel
theorem dX3_init_41 : decode cX3_init 41 = .ok (.putfield 26, 3) := by decide +kernel
theorem q_129 : (Cond.fieldLink "NightfallVillage$Folk" 26 "NightfallVillage$Folk" "dying" "[I") ∈ tw := tw_in (i := 129) (by decide +kernel) (by decide +kernel)
theorem dX3_init_44 : decode cX3_init 44 = .ok (.aload_n 0, 1) := by decide +kernel
theorem dX3_init_45 : decode cX3_init 45 = .ok (.aload_n 1, 1) := by decide +kernel
theorem dX3_init_46 : decode cX3_init 46 = .ok (.putfield 29, 3) := by decide +kernel
theorem q_123 : (Cond.fieldLink "NightfallVillage$Folk" 29 "NightfallVillage$Folk" "roles" "LNightfallVillage$Roles;") ∈ tw := tw_in (i := 123) (by decide +kernel) (by decide +kernel)
theorem dX3_init_49 : decode cX3_init 49 = .ok (.aload_n 0, 1) := by decide +kernel
theorem dX3_init_50 : decode cX3_init 50 = .ok (.aload_n 2, 1) := by decide +kernel
theorem dX3_init_51 : decode cX3_init 51 = .ok (.putfield 33, 3) := by decide +kernel
theorem q_124 : (Cond.fieldLink "NightfallVillage$Folk" 33 "NightfallVillage$Folk" "deal" "LNightfallVillage$Deal;") ∈ tw := tw_in (i := 124) (by decide +kernel) (by decide +kernel)
theorem dX3_init_54 : decode cX3_init 54 = .ok (.return_, 1) := by decide +kernel
set_option maxHeartbeats 4000000 in
set_option maxRecDepth 100000 in
theorem c_Folk_init (l : Launch) (hst : l.stackTraces = false) (tE : Nat) (adK adV : Nat → Nat) (dC : Nat → ClassId) (dI : Nat → Nat → Nat) (h0 : Nat) (r0 : Nat) (d0 : Nat) (sz : Nat) : Met l yX3_init (Cond.code yX3_init cX3_init 3 none :: tw) ({ frames := 1, cells := 5, slots := 35, locals := 12 }) (va_Pc [.ref h0, .ref r0, .ref d0] (pre tE adK adV (dC, dI) [(h0, .inr (3, [.null, .null, .null, .null, .null, .null, .null, .int 0, .int 0]))] [] sz)) (va_Qv (fun (_ : Unit) => True) (fun (_ : Unit) (t : State) => ∃ (q1 : Nat) (q2 : Nat) (q3 : Nat) (q4 : Nat) (q5 : Nat), va_P (dC, dI) cls [(h0, .inr (3, [.ref r0, .ref d0, .ref q1, .ref q2, .ref q3, .ref q4, .ref q5, .int 0, .int 0]))] t.heap ∧ va_K (dC, dI) cls [] t ∧ va_D (va_A [(h0, .inr (3, [.null, .null, .null, .null, .null, .null, .null, .int 0, .int 0]))] sz) [(h0, .inr (3, [.ref r0, .ref d0, .ref q1, .ref q2, .ref q3, .ref q4, .ref q5, .int 0, .int 0]))]) (va_A [(h0, .inr (3, [.null, .null, .null, .null, .null, .null, .null, .int 0, .int 0]))] sz)) 5 35 (va_A [(h0, .inr (3, [.null, .null, .null, .null, .null, .null, .null, .int 0, .int 0]))] sz) := by
  refine Met.ofW (cc := cX3_init) (maxL := 3) (ret := none) (by decide) rfl ?_
  intro p e s m args below meth c s₁ B hml hv
  obtain ⟨rfl, hsz, hP, hK, hD0, ham⟩ := hv
  have hx := B.exec
  have hb := B.bytes
  have hr := B.returns
  have hts := atoms_spec B.pre
  have hq : ∀ w ∈ tw, w.before _ s = true := fun w h => hts w (List.mem_cons_of_mem _ h)
  have hown : s.vm.findClass RX3 = some m.cls := findClass_of_methodNamed B.named
  have hlocks := B.notSynchronized
  have hin : meth.name = "<init>" := (name_of_methodNamed B.named B.method).1
  subst hsz
  have hD := hD0.self (sz := s.heap.size)
  generalize hAe : va_A [(h0, .inr (3, [.null, .null, .null, .null, .null, .null, .null, .int 0, .int 0]))] s.heap.size = A at hD ham ⊢
  have hA : ∀ q : Nat, s.heap.size ≤ q → A q := fun q h => by rw [← hAe]; exact Or.inr h
  have hS : va_S A s.heap s.heap [] := va_S.rf
  have hP : va_P (dC, dI) cls [(h0, .inr (3, [.null, .null, .null, .null, .null, .null, .null, .int 0, .int 0]))] s.heap := hP
  have hl := lv_entry ([.ref h0, .ref r0, .ref d0]) (n := 3) (Nat.le_of_ble_eq_true rfl)
  rw [lg_entry_eq]
  generalize (lg_sl ([.ref h0, .ref r0, .ref d0]) ++ List.replicate (3 - (lg_sl ([.ref h0, .ref r0, .ref d0])).length) Slot.unset).toArray = ls at hl ⊢
  have hl : lv_has ls 3 [(0, .ref h0), (1, .ref r0), (2, .ref d0)] := hl
  refine lv_aload_n hx hb dX3_init_0 rfl (lv_at hl 0 rfl) ?_
  refine W.objInit hx hb hown (hq _ q_122) (hq _ q_45) (hq _ q_46) rfl (by rw [hml]; exact hl.1) rfl dX3_init_1 (Nat.le_of_ble_eq_true rfl) (Nat.le_of_ble_eq_true rfl) ?_
  refine W.eq (g2 := F0 m 4 ls []) rfl ?_
  refine lv_aload_n hx hb dX3_init_4 rfl (lv_at hl 0 rfl) ?_
  refine lv_bipush (v := 7) hx hb dX3_init_5 (by decide) ?_
  refine va_newa (atype := .int) (a0 := (7, .inl (fun _ => 0))) hx hb (hq _ q_81) rfl hK hP hD hS hA (fun _ => rfl) (by decide) (by decide) (Nat.le_of_ble_eq_true rfl) (Nat.le_of_ble_eq_true rfl) (Nat.le_of_ble_eq_true rfl) dX3_init_7 (fun a_1 cA_2 H hK hP hD hS => ?_)
  have hP : va_P (dC, dI) cls [(h0, .inr (3, [.null, .null, .null, .null, .null, .null, .null, .int 0, .int 0])), (a_1, .inl (cA_2, 7, .inl (fun _ => 0)))] H := hP
  have hD : va_D A [(h0, .inr (3, [.null, .null, .null, .null, .null, .null, .null, .int 0, .int 0])), (a_1, .inl (cA_2, 7, .inl (fun _ => 0)))] := hD
  have hK : va_K (dC, dI) cls [(cA_2, .int)] s := hK
  refine W.widen (k := 1) (n := 7) (Nat.le_of_ble_eq_true rfl) (Nat.le_of_ble_eq_true rfl) ?_
  refine va_putF (D := (dC, dI)) (ci := 3) (v := .ref a_1) (ty := (.array .int)) (C := RX3) (T := TX3) (N := 9) hx hb hq i_X3 tyX3 tyX3_ok nmX3 hown hK hP hD hS 0 rfl rfl 2 (by decide) (hq _ q_125) (fun _ h9 => h9) rfl hin rfl (by decide +kernel) rfl rfl (Nat.le_of_ble_eq_true rfl) dX3_init_9 (fun H locs hP hD hS => ?_)
  have hP : va_P (dC, dI) cls [(h0, .inr (3, [.null, .null, .ref a_1, .null, .null, .null, .null, .int 0, .int 0])), (a_1, .inl (cA_2, 7, .inl (fun _ => 0)))] H := hP
  have hD : va_D A [(h0, .inr (3, [.null, .null, .ref a_1, .null, .null, .null, .null, .int 0, .int 0])), (a_1, .inl (cA_2, 7, .inl (fun _ => 0)))] := hD
  refine lv_aload_n hx hb dX3_init_12 rfl (lv_at hl 0 rfl) ?_
  refine lv_bipush (v := 7) hx hb dX3_init_13 (by decide) ?_
  refine va_newa (atype := .boolean) (a0 := (7, .inl (fun _ => 0))) hx hb (hq _ q_82) rfl hK hP hD hS hA (fun _ => rfl) (by decide) (by decide) (Nat.le_of_ble_eq_true rfl) (Nat.le_of_ble_eq_true rfl) (Nat.le_of_ble_eq_true rfl) dX3_init_15 (fun a_3 cA_4 H hK hP hD hS => ?_)
  have hP : va_P (dC, dI) cls [(h0, .inr (3, [.null, .null, .ref a_1, .null, .null, .null, .null, .int 0, .int 0])), (a_1, .inl (cA_2, 7, .inl (fun _ => 0))), (a_3, .inl (cA_4, 7, .inl (fun _ => 0)))] H := hP
  have hD : va_D A [(h0, .inr (3, [.null, .null, .ref a_1, .null, .null, .null, .null, .int 0, .int 0])), (a_1, .inl (cA_2, 7, .inl (fun _ => 0))), (a_3, .inl (cA_4, 7, .inl (fun _ => 0)))] := hD
  have hK : va_K (dC, dI) cls [(cA_2, .int), (cA_4, .boolean)] s := hK
  refine W.widen (k := 2) (n := 14) (Nat.le_of_ble_eq_true rfl) (Nat.le_of_ble_eq_true rfl) ?_
  refine va_putF (D := (dC, dI)) (ci := 3) (v := .ref a_3) (ty := (.array .boolean)) (C := RX3) (T := TX3) (N := 9) hx hb hq i_X3 tyX3 tyX3_ok nmX3 hown hK hP hD hS 0 rfl rfl 3 (by decide) (hq _ q_126) (fun _ h9 => h9) rfl hin rfl (by decide +kernel) rfl rfl (Nat.le_of_ble_eq_true rfl) dX3_init_17 (fun H locs hP hD hS => ?_)
  have hP : va_P (dC, dI) cls [(h0, .inr (3, [.null, .null, .ref a_1, .ref a_3, .null, .null, .null, .int 0, .int 0])), (a_1, .inl (cA_2, 7, .inl (fun _ => 0))), (a_3, .inl (cA_4, 7, .inl (fun _ => 0)))] H := hP
  have hD : va_D A [(h0, .inr (3, [.null, .null, .ref a_1, .ref a_3, .null, .null, .null, .int 0, .int 0])), (a_1, .inl (cA_2, 7, .inl (fun _ => 0))), (a_3, .inl (cA_4, 7, .inl (fun _ => 0)))] := hD
  refine lv_aload_n hx hb dX3_init_20 rfl (lv_at hl 0 rfl) ?_
  refine lv_bipush (v := 7) hx hb dX3_init_21 (by decide) ?_
  refine va_newa (atype := .char) (a0 := (7, .inl (fun _ => 0))) hx hb (hq _ q_80) rfl hK hP hD hS hA (fun _ => rfl) (by decide) (by decide) (Nat.le_of_ble_eq_true rfl) (Nat.le_of_ble_eq_true rfl) (Nat.le_of_ble_eq_true rfl) dX3_init_23 (fun a_5 cA_6 H hK hP hD hS => ?_)
  have hP : va_P (dC, dI) cls [(h0, .inr (3, [.null, .null, .ref a_1, .ref a_3, .null, .null, .null, .int 0, .int 0])), (a_1, .inl (cA_2, 7, .inl (fun _ => 0))), (a_3, .inl (cA_4, 7, .inl (fun _ => 0))), (a_5, .inl (cA_6, 7, .inl (fun _ => 0)))] H := hP
  have hD : va_D A [(h0, .inr (3, [.null, .null, .ref a_1, .ref a_3, .null, .null, .null, .int 0, .int 0])), (a_1, .inl (cA_2, 7, .inl (fun _ => 0))), (a_3, .inl (cA_4, 7, .inl (fun _ => 0))), (a_5, .inl (cA_6, 7, .inl (fun _ => 0)))] := hD
  have hK : va_K (dC, dI) cls [(cA_2, .int), (cA_4, .boolean), (cA_6, .char)] s := hK
  refine W.widen (k := 3) (n := 21) (Nat.le_of_ble_eq_true rfl) (Nat.le_of_ble_eq_true rfl) ?_
  refine va_putF (D := (dC, dI)) (ci := 3) (v := .ref a_5) (ty := (.array .char)) (C := RX3) (T := TX3) (N := 9) hx hb hq i_X3 tyX3 tyX3_ok nmX3 hown hK hP hD hS 0 rfl rfl 4 (by decide) (hq _ q_127) (fun _ h9 => h9) rfl hin rfl (by decide +kernel) rfl rfl (Nat.le_of_ble_eq_true rfl) dX3_init_25 (fun H locs hP hD hS => ?_)
  have hP : va_P (dC, dI) cls [(h0, .inr (3, [.null, .null, .ref a_1, .ref a_3, .ref a_5, .null, .null, .int 0, .int 0])), (a_1, .inl (cA_2, 7, .inl (fun _ => 0))), (a_3, .inl (cA_4, 7, .inl (fun _ => 0))), (a_5, .inl (cA_6, 7, .inl (fun _ => 0)))] H := hP
  have hD : va_D A [(h0, .inr (3, [.null, .null, .ref a_1, .ref a_3, .ref a_5, .null, .null, .int 0, .int 0])), (a_1, .inl (cA_2, 7, .inl (fun _ => 0))), (a_3, .inl (cA_4, 7, .inl (fun _ => 0))), (a_5, .inl (cA_6, 7, .inl (fun _ => 0)))] := hD
  refine lv_aload_n hx hb dX3_init_28 rfl (lv_at hl 0 rfl) ?_
  refine lv_bipush (v := 7) hx hb dX3_init_29 (by decide) ?_
  refine va_newa (atype := .int) (a0 := (7, .inl (fun _ => 0))) hx hb (hq _ q_81) rfl hK hP hD hS hA (fun _ => rfl) (by decide) (by decide) (Nat.le_of_ble_eq_true rfl) (Nat.le_of_ble_eq_true rfl) (Nat.le_of_ble_eq_true rfl) dX3_init_31 (fun a_7 cA_8 H hK hP hD hS => ?_)
  have hP : va_P (dC, dI) cls [(h0, .inr (3, [.null, .null, .ref a_1, .ref a_3, .ref a_5, .null, .null, .int 0, .int 0])), (a_1, .inl (cA_2, 7, .inl (fun _ => 0))), (a_3, .inl (cA_4, 7, .inl (fun _ => 0))), (a_5, .inl (cA_6, 7, .inl (fun _ => 0))), (a_7, .inl (cA_8, 7, .inl (fun _ => 0)))] H := hP
  have hD : va_D A [(h0, .inr (3, [.null, .null, .ref a_1, .ref a_3, .ref a_5, .null, .null, .int 0, .int 0])), (a_1, .inl (cA_2, 7, .inl (fun _ => 0))), (a_3, .inl (cA_4, 7, .inl (fun _ => 0))), (a_5, .inl (cA_6, 7, .inl (fun _ => 0))), (a_7, .inl (cA_8, 7, .inl (fun _ => 0)))] := hD
  have hK : va_K (dC, dI) cls [(cA_2, .int), (cA_4, .boolean), (cA_6, .char), (cA_8, .int)] s := hK
  refine W.widen (k := 4) (n := 28) (Nat.le_of_ble_eq_true rfl) (Nat.le_of_ble_eq_true rfl) ?_
  refine va_putF (D := (dC, dI)) (ci := 3) (v := .ref a_7) (ty := (.array .int)) (C := RX3) (T := TX3) (N := 9) hx hb hq i_X3 tyX3 tyX3_ok nmX3 hown hK hP hD hS 0 rfl rfl 5 (by decide) (hq _ q_128) (fun _ h9 => h9) rfl hin rfl (by decide +kernel) rfl rfl (Nat.le_of_ble_eq_true rfl) dX3_init_33 (fun H locs hP hD hS => ?_)
  have hP : va_P (dC, dI) cls [(h0, .inr (3, [.null, .null, .ref a_1, .ref a_3, .ref a_5, .ref a_7, .null, .int 0, .int 0])), (a_1, .inl (cA_2, 7, .inl (fun _ => 0))), (a_3, .inl (cA_4, 7, .inl (fun _ => 0))), (a_5, .inl (cA_6, 7, .inl (fun _ => 0))), (a_7, .inl (cA_8, 7, .inl (fun _ => 0)))] H := hP
  have hD : va_D A [(h0, .inr (3, [.null, .null, .ref a_1, .ref a_3, .ref a_5, .ref a_7, .null, .int 0, .int 0])), (a_1, .inl (cA_2, 7, .inl (fun _ => 0))), (a_3, .inl (cA_4, 7, .inl (fun _ => 0))), (a_5, .inl (cA_6, 7, .inl (fun _ => 0))), (a_7, .inl (cA_8, 7, .inl (fun _ => 0)))] := hD
  refine lv_aload_n hx hb dX3_init_36 rfl (lv_at hl 0 rfl) ?_
  refine lv_bipush (v := 7) hx hb dX3_init_37 (by decide) ?_
  refine va_newa (atype := .int) (a0 := (7, .inl (fun _ => 0))) hx hb (hq _ q_81) rfl hK hP hD hS hA (fun _ => rfl) (by decide) (by decide) (Nat.le_of_ble_eq_true rfl) (Nat.le_of_ble_eq_true rfl) (Nat.le_of_ble_eq_true rfl) dX3_init_39 (fun a_9 cA_10 H hK hP hD hS => ?_)
  have hP : va_P (dC, dI) cls [(h0, .inr (3, [.null, .null, .ref a_1, .ref a_3, .ref a_5, .ref a_7, .null, .int 0, .int 0])), (a_1, .inl (cA_2, 7, .inl (fun _ => 0))), (a_3, .inl (cA_4, 7, .inl (fun _ => 0))), (a_5, .inl (cA_6, 7, .inl (fun _ => 0))), (a_7, .inl (cA_8, 7, .inl (fun _ => 0))), (a_9, .inl (cA_10, 7, .inl (fun _ => 0)))] H := hP
  have hD : va_D A [(h0, .inr (3, [.null, .null, .ref a_1, .ref a_3, .ref a_5, .ref a_7, .null, .int 0, .int 0])), (a_1, .inl (cA_2, 7, .inl (fun _ => 0))), (a_3, .inl (cA_4, 7, .inl (fun _ => 0))), (a_5, .inl (cA_6, 7, .inl (fun _ => 0))), (a_7, .inl (cA_8, 7, .inl (fun _ => 0))), (a_9, .inl (cA_10, 7, .inl (fun _ => 0)))] := hD
  have hK : va_K (dC, dI) cls [(cA_2, .int), (cA_4, .boolean), (cA_6, .char), (cA_8, .int), (cA_10, .int)] s := hK
  refine W.widen (k := 5) (n := 35) (Nat.le_of_ble_eq_true rfl) (Nat.le_of_ble_eq_true rfl) ?_
  refine va_putF (D := (dC, dI)) (ci := 3) (v := .ref a_9) (ty := (.array .int)) (C := RX3) (T := TX3) (N := 9) hx hb hq i_X3 tyX3 tyX3_ok nmX3 hown hK hP hD hS 0 rfl rfl 6 (by decide) (hq _ q_129) (fun _ h9 => h9) rfl hin rfl (by decide +kernel) rfl rfl (Nat.le_of_ble_eq_true rfl) dX3_init_41 (fun H locs hP hD hS => ?_)
  have hP : va_P (dC, dI) cls [(h0, .inr (3, [.null, .null, .ref a_1, .ref a_3, .ref a_5, .ref a_7, .ref a_9, .int 0, .int 0])), (a_1, .inl (cA_2, 7, .inl (fun _ => 0))), (a_3, .inl (cA_4, 7, .inl (fun _ => 0))), (a_5, .inl (cA_6, 7, .inl (fun _ => 0))), (a_7, .inl (cA_8, 7, .inl (fun _ => 0))), (a_9, .inl (cA_10, 7, .inl (fun _ => 0)))] H := hP
  have hD : va_D A [(h0, .inr (3, [.null, .null, .ref a_1, .ref a_3, .ref a_5, .ref a_7, .ref a_9, .int 0, .int 0])), (a_1, .inl (cA_2, 7, .inl (fun _ => 0))), (a_3, .inl (cA_4, 7, .inl (fun _ => 0))), (a_5, .inl (cA_6, 7, .inl (fun _ => 0))), (a_7, .inl (cA_8, 7, .inl (fun _ => 0))), (a_9, .inl (cA_10, 7, .inl (fun _ => 0)))] := hD
  refine lv_aload_n hx hb dX3_init_44 rfl (lv_at hl 0 rfl) ?_
  refine lv_aload_n hx hb dX3_init_45 rfl (lv_at hl 1 rfl) ?_
  refine va_putF (D := (dC, dI)) (ci := 3) (v := .ref r0) (ty := (.object "NightfallVillage$Roles")) (C := RX3) (T := TX3) (N := 9) hx hb hq i_X3 tyX3 tyX3_ok nmX3 hown hK hP hD hS 0 rfl rfl 0 (by decide) (hq _ q_123) (fun _ h9 => h9) rfl hin rfl (by decide +kernel) rfl rfl (Nat.le_of_ble_eq_true rfl) dX3_init_46 (fun H locs hP hD hS => ?_)
  have hP : va_P (dC, dI) cls [(h0, .inr (3, [.ref r0, .null, .ref a_1, .ref a_3, .ref a_5, .ref a_7, .ref a_9, .int 0, .int 0])), (a_1, .inl (cA_2, 7, .inl (fun _ => 0))), (a_3, .inl (cA_4, 7, .inl (fun _ => 0))), (a_5, .inl (cA_6, 7, .inl (fun _ => 0))), (a_7, .inl (cA_8, 7, .inl (fun _ => 0))), (a_9, .inl (cA_10, 7, .inl (fun _ => 0)))] H := hP
  have hD : va_D A [(h0, .inr (3, [.ref r0, .null, .ref a_1, .ref a_3, .ref a_5, .ref a_7, .ref a_9, .int 0, .int 0])), (a_1, .inl (cA_2, 7, .inl (fun _ => 0))), (a_3, .inl (cA_4, 7, .inl (fun _ => 0))), (a_5, .inl (cA_6, 7, .inl (fun _ => 0))), (a_7, .inl (cA_8, 7, .inl (fun _ => 0))), (a_9, .inl (cA_10, 7, .inl (fun _ => 0)))] := hD
  refine lv_aload_n hx hb dX3_init_49 rfl (lv_at hl 0 rfl) ?_
  refine lv_aload_n hx hb dX3_init_50 rfl (lv_at hl 2 rfl) ?_
  refine va_putF (D := (dC, dI)) (ci := 3) (v := .ref d0) (ty := (.object "NightfallVillage$Deal")) (C := RX3) (T := TX3) (N := 9) hx hb hq i_X3 tyX3 tyX3_ok nmX3 hown hK hP hD hS 0 rfl rfl 1 (by decide) (hq _ q_124) (fun _ h9 => h9) rfl hin rfl (by decide +kernel) rfl rfl (Nat.le_of_ble_eq_true rfl) dX3_init_51 (fun H locs hP hD hS => ?_)
  have hP : va_P (dC, dI) cls [(h0, .inr (3, [.ref r0, .ref d0, .ref a_1, .ref a_3, .ref a_5, .ref a_7, .ref a_9, .int 0, .int 0])), (a_1, .inl (cA_2, 7, .inl (fun _ => 0))), (a_3, .inl (cA_4, 7, .inl (fun _ => 0))), (a_5, .inl (cA_6, 7, .inl (fun _ => 0))), (a_7, .inl (cA_8, 7, .inl (fun _ => 0))), (a_9, .inl (cA_10, 7, .inl (fun _ => 0)))] H := hP
  have hD : va_D A [(h0, .inr (3, [.ref r0, .ref d0, .ref a_1, .ref a_3, .ref a_5, .ref a_7, .ref a_9, .int 0, .int 0])), (a_1, .inl (cA_2, 7, .inl (fun _ => 0))), (a_3, .inl (cA_4, 7, .inl (fun _ => 0))), (a_5, .inl (cA_6, 7, .inl (fun _ => 0))), (a_7, .inl (cA_8, 7, .inl (fun _ => 0))), (a_9, .inl (cA_10, 7, .inl (fun _ => 0)))] := hD
  refine W.widen (k := 5) (n := 35) (Nat.le_of_ble_eq_true rfl) (Nat.le_of_ble_eq_true rfl) ?_
  have hP9 := hP.sub (ws' := [(h0, .inr (3, [.ref r0, .ref d0, .ref a_1, .ref a_3, .ref a_5, .ref a_7, .ref a_9, .int 0, .int 0]))]) [0] rfl
  have hD9 := hD.sub (ws' := [(h0, .inr (3, [.ref r0, .ref d0, .ref a_1, .ref a_3, .ref a_5, .ref a_7, .ref a_9, .int 0, .int 0]))]) [0] (by decide) rfl
  have hK9 := hK.sub (tys' := []) [] rfl
  exact W.vret hx hb hr (fun t ht hW => ⟨⟨(), rfl, trivial, ⟨a_1, a_3, a_5, a_7, a_9, by rw [ht]; exact hP9, va_K.moved hW.alike hK9, hD9⟩⟩, hS.F ht⟩) hS.2.2 dX3_init_54
abbrev cX4_init : ByteArray := prog_6_method_1_code
def yX4_init : MethodName := ⟨RX4, "<init>", "(LNightfallVillage$Roles;LNightfallVillage$Deal;)V"⟩
theorem dX4_init_0 : decode cX4_init 0 = .ok (.aload_n 0, 1) := by decide +kernel
theorem dX4_init_1 : decode cX4_init 1 = .ok (.invokespecial 3, 3) := by decide +kernel
theorem q_116 : (Cond.methodLink "NightfallVillage$Game" 3 objectInit) ∈ tw := tw_in (i := 116) (by decide +kernel) (by decide +kernel)
theorem dX4_init_4 : decode cX4_init 4 = .ok (.aload_n 0, 1) := by decide +kernel
theorem dX4_init_5 : decode cX4_init 5 = .ok (.bipush 45, 2) := by decide +kernel
theorem dX4_init_7 : decode cX4_init 7 = .ok (.putfield 9, 3) := by decide +kernel
theorem q_220 : (Cond.fieldLink "NightfallVillage$Game" 9 "NightfallVillage$Game" "outcome" "C") ∈ tw := tw_in (i := 220) (by decide +kernel) (by decide +kernel)
theorem dX4_init_10 : decode cX4_init 10 = .ok (.aload_n 0, 1) := by decide +kernel
theorem dX4_init_11 : decode cX4_init 11 = .ok (.new 15, 3) := by decide +kernel
theorem q_117 : (Cond.classLink "NightfallVillage$Game" 15 "NightfallVillage$Folk") ∈ tw := tw_in (i := 117) (by decide +kernel) (by decide +kernel)
theorem q_118 : (Cond.instantiable "NightfallVillage$Folk" 9) ∈ tw := tw_in (i := 118) (by decide +kernel) (by decide +kernel)
theorem q_5 : (Cond.initialized "NightfallVillage$Folk") ∈ tw := tw_in (i := 5) (by decide +kernel) (by decide +kernel)
theorem dX4_init_14 : decode cX4_init 14 = .ok (.dup, 1) := by decide +kernel
theorem dX4_init_15 : decode cX4_init 15 = .ok (.aload_n 1, 1) := by decide +kernel
theorem dX4_init_16 : decode cX4_init 16 = .ok (.aload_n 2, 1) := by decide +kernel
theorem dX4_init_17 : decode cX4_init 17 = .ok (.invokespecial 17, 3) := by decide +kernel
theorem q_121 : (Cond.code yX3_init cX3_init 3 none) ∈ tw := tw_in (i := 121) (by decide +kernel) (by decide +kernel)
theorem q_119 : (Cond.methodLink "NightfallVillage$Game" 17 yX3_init) ∈ tw := tw_in (i := 119) (by decide +kernel) (by decide +kernel)
theorem q_120 : (Cond.instanceMethod yX3_init) ∈ tw := tw_in (i := 120) (by decide +kernel) (by decide +kernel)
theorem dX4_init_20 : decode cX4_init 20 = .ok (.putfield 20, 3) := by decide +kernel
theorem q_208 : (Cond.fieldLink "NightfallVillage$Game" 20 "NightfallVillage$Game" "folk" "LNightfallVillage$Folk;") ∈ tw := tw_in (i := 208) (by decide +kernel) (by decide +kernel)
theorem dX4_init_23 : decode cX4_init 23 = .ok (.aload_n 0, 1) := by decide +kernel
theorem dX4_init_24 : decode cX4_init 24 = .ok (.new 24, 3) := by decide +kernel
theorem q_153 : (Cond.classLink "NightfallVillage$Game" 24 "NightfallVillage$Night") ∈ tw := tw_in (i := 153) (by decide +kernel) (by decide +kernel)
theorem q_154 : (Cond.instantiable "NightfallVillage$Night" 11) ∈ tw := tw_in (i := 154) (by decide +kernel) (by decide +kernel)
theorem q_6 : (Cond.initialized "NightfallVillage$Night") ∈ tw := tw_in (i := 6) (by decide +kernel) (by decide +kernel)
theorem dX4_init_27 : decode cX4_init 27 = .ok (.dup, 1) := by decide +kernel
theorem dX4_init_28 : decode cX4_init 28 = .ok (.invokespecial 26, 3) := by decide +kernel
theorem q_157 : (Cond.code yX6_init cX6_init 1 none) ∈ tw := tw_in (i := 157) (by decide +kernel) (by decide +kernel)
theorem q_155 : (Cond.methodLinkNest "NightfallVillage$Game" 26 yX6_init "NightfallVillage") ∈ tw := tw_in (i := 155) (by decide +kernel) (by decide +kernel)
theorem q_156 : (Cond.instanceMethod yX6_init) ∈ tw := tw_in (i := 156) (by decide +kernel) (by decide +kernel)
theorem dX4_init_31 : decode cX4_init 31 = .ok (.putfield 27, 3) := by decide +kernel
theorem q_210 : (Cond.fieldLink "NightfallVillage$Game" 27 "NightfallVillage$Game" "night" "LNightfallVillage$Night;") ∈ tw := tw_in (i := 210) (by decide +kernel) (by decide +kernel)
theorem dX4_init_34 : decode cX4_init 34 = .ok (.aload_n 0, 1) := by decide +kernel
theorem dX4_init_35 : decode cX4_init 35 = .ok (.new 31, 3) := by decide +kernel
theorem q_195 : (Cond.classLink "NightfallVillage$Game" 31 "NightfallVillage$Day") ∈ tw := tw_in (i := 195) (by decide +kernel) (by decide +kernel)
theorem q_196 : (Cond.instantiable "NightfallVillage$Day" 2) ∈ tw := tw_in (i := 196) (by decide +kernel) (by decide +kernel)
theorem q_7 : (Cond.initialized "NightfallVillage$Day") ∈ tw := tw_in (i := 7) (by decide +kernel) (by decide +kernel)
theorem dX4_init_38 : decode cX4_init 38 = .ok (.dup, 1) := by decide +kernel
theorem dX4_init_39 : decode cX4_init 39 = .ok (.invokespecial 33, 3) := by decide +kernel
theorem q_199 : (Cond.code yX1_init cX1_init 1 none) ∈ tw := tw_in (i := 199) (by decide +kernel) (by decide +kernel)
theorem q_197 : (Cond.methodLinkNest "NightfallVillage$Game" 33 yX1_init "NightfallVillage") ∈ tw := tw_in (i := 197) (by decide +kernel) (by decide +kernel)
theorem q_198 : (Cond.instanceMethod yX1_init) ∈ tw := tw_in (i := 198) (by decide +kernel) (by decide +kernel)
theorem dX4_init_42 : decode cX4_init 42 = .ok (.putfield 34, 3) := by decide +kernel
theorem q_212 : (Cond.fieldLink "NightfallVillage$Game" 34 "NightfallVillage$Game" "day" "LNightfallVillage$Day;") ∈ tw := tw_in (i := 212) (by decide +kernel) (by decide +kernel)
theorem dX4_init_45 : decode cX4_init 45 = .ok (.return_, 1) := by decide +kernel
set_option maxHeartbeats 4000000 in
set_option maxRecDepth 100000 in
theorem c_Game_init (l : Launch) (hst : l.stackTraces = false) (tE : Nat) (adK adV : Nat → Nat) (dC : Nat → ClassId) (dI : Nat → Nat → Nat) (h0 : Nat) (r0 : Nat) (d0 : Nat) (sz : Nat) : Met l yX4_init (Cond.code yX4_init cX4_init 3 none :: tw) ({ frames := 2, cells := 21, slots := 148, locals := 34 }) (va_Pc [.ref h0, .ref r0, .ref d0] (pre tE adK adV (dC, dI) [(h0, .inr (4, [.null, .null, .null, .int 0, .int 0, .int 0, .int 0]))] [] sz)) (va_Qv (fun (_ : Unit) => True) (fun (_ : Unit) (t : State) => ∃ (f0 : Nat) (n0 : Nat) (y0 : Nat) (q1 : Nat) (q2 : Nat) (q3 : Nat) (q4 : Nat) (q5 : Nat), va_P (dC, dI) cls [(h0, .inr (4, [.ref f0, .ref n0, .ref y0, .int 0, .int 0, .int 0, .int 45])), (f0, .inr (3, [.ref r0, .ref d0, .ref q1, .ref q2, .ref q3, .ref q4, .ref q5, .int 0, .int 0]))] t.heap ∧ va_K (dC, dI) cls [] t ∧ va_D (va_A [(h0, .inr (4, [.null, .null, .null, .int 0, .int 0, .int 0, .int 0]))] sz) [(h0, .inr (4, [.ref f0, .ref n0, .ref y0, .int 0, .int 0, .int 0, .int 45])), (f0, .inr (3, [.ref r0, .ref d0, .ref q1, .ref q2, .ref q3, .ref q4, .ref q5, .int 0, .int 0]))]) (va_A [(h0, .inr (4, [.null, .null, .null, .int 0, .int 0, .int 0, .int 0]))] sz)) 21 148 (va_A [(h0, .inr (4, [.null, .null, .null, .int 0, .int 0, .int 0, .int 0]))] sz) := by
  refine Met.ofW (cc := cX4_init) (maxL := 3) (ret := none) (by decide) rfl ?_
  intro p e s m args below meth c s₁ B hml hv
  obtain ⟨rfl, hsz, hP, hK, hD0, ham⟩ := hv
  have hx := B.exec
  have hb := B.bytes
  have hr := B.returns
  have hts := atoms_spec B.pre
  have hq : ∀ w ∈ tw, w.before _ s = true := fun w h => hts w (List.mem_cons_of_mem _ h)
  have hown : s.vm.findClass RX4 = some m.cls := findClass_of_methodNamed B.named
  have hlocks := B.notSynchronized
  have hin : meth.name = "<init>" := (name_of_methodNamed B.named B.method).1
  subst hsz
  have hD := hD0.self (sz := s.heap.size)
  generalize hAe : va_A [(h0, .inr (4, [.null, .null, .null, .int 0, .int 0, .int 0, .int 0]))] s.heap.size = A at hD ham ⊢
  have hA : ∀ q : Nat, s.heap.size ≤ q → A q := fun q h => by rw [← hAe]; exact Or.inr h
  have hS : va_S A s.heap s.heap [] := va_S.rf
  have hP : va_P (dC, dI) cls [(h0, .inr (4, [.null, .null, .null, .int 0, .int 0, .int 0, .int 0]))] s.heap := hP
  have hl := lv_entry ([.ref h0, .ref r0, .ref d0]) (n := 3) (Nat.le_of_ble_eq_true rfl)
  rw [lg_entry_eq]
  generalize (lg_sl ([.ref h0, .ref r0, .ref d0]) ++ List.replicate (3 - (lg_sl ([.ref h0, .ref r0, .ref d0])).length) Slot.unset).toArray = ls at hl ⊢
  have hl : lv_has ls 3 [(0, .ref h0), (1, .ref r0), (2, .ref d0)] := hl
  refine lv_aload_n hx hb dX4_init_0 rfl (lv_at hl 0 rfl) ?_
  refine W.objInit hx hb hown (hq _ q_116) (hq _ q_45) (hq _ q_46) rfl (by rw [hml]; exact hl.1) rfl dX4_init_1 (Nat.le_of_ble_eq_true rfl) (Nat.le_of_ble_eq_true rfl) ?_
  refine W.eq (g2 := F0 m 4 ls []) rfl ?_
  refine lv_aload_n hx hb dX4_init_4 rfl (lv_at hl 0 rfl) ?_
  refine lv_bipush (v := 45) hx hb dX4_init_5 (by decide) ?_
  refine va_put (D := (dC, dI)) (ci := 4) (v := .int 45) (ty := .char) (C := RX4) (T := TX4) (N := 7) hx hb hq i_X4 tyX4 tyX4_ok nmX4 hown hK hP hD hS 0 rfl rfl 6 (by decide) (hq _ q_220) (fun _ h9 => h9) rfl (by decide +kernel) (by decide) (by decide +kernel) (Nat.le_of_ble_eq_true rfl) dX4_init_7 (fun H locs hP hD hS => ?_)
  have hP : va_P (dC, dI) cls [(h0, .inr (4, [.null, .null, .null, .int 0, .int 0, .int 0, .int 45]))] H := hP
  have hD : va_D A [(h0, .inr (4, [.null, .null, .null, .int 0, .int 0, .int 0, .int 45]))] := hD
  refine lv_aload_n hx hb dX4_init_10 rfl (lv_at hl 0 rfl) ?_
  refine va_new (ci := 3) (fs := [.null, .null, .null, .null, .null, .null, .null, .int 0, .int 0]) (C := RX3) (T := TX3) (N := 9) hx hb hq i_X3 tyX3 tyX3_ok hown (hq _ q_117) (hq _ q_118) (hq _ q_5) hK hP hD hS hA rfl (fun j hj => by rcases (show j = 0 ∨ j = 1 ∨ j = 2 ∨ j = 3 ∨ j = 4 ∨ j = 5 ∨ j = 6 ∨ j = 7 ∨ j = 8 by omega) with rfl | rfl | rfl | rfl | rfl | rfl | rfl | rfl | rfl <;> rfl) (Nat.le_of_ble_eq_true rfl) (Nat.le_of_ble_eq_true rfl) dX4_init_11 (fun a_1 H hP hD hS => ?_)
  have hP : va_P (dC, dI) cls [(h0, .inr (4, [.null, .null, .null, .int 0, .int 0, .int 0, .int 45])), (a_1, .inr (3, [.null, .null, .null, .null, .null, .null, .null, .int 0, .int 0]))] H := hP
  have hD : va_D A [(h0, .inr (4, [.null, .null, .null, .int 0, .int 0, .int 0, .int 45])), (a_1, .inr (3, [.null, .null, .null, .null, .null, .null, .null, .int 0, .int 0]))] := hD
  refine W.widen (k := 1) (n := 9) (Nat.le_of_ble_eq_true rfl) (Nat.le_of_ble_eq_true rfl) ?_
  refine lv_dup hx hb dX4_init_14 rfl ?_
  refine lv_aload_n hx hb dX4_init_15 rfl (lv_at hl 1 rfl) ?_
  refine lv_aload_n hx hb dX4_init_16 rfl (lv_at hl 2 rfl) ?_
  have hPc := hP.sub (ws' := [(a_1, .inr (3, [.null, .null, .null, .null, .null, .null, .null, .int 0, .int 0]))]) [1] rfl
  have hKc := hK.sub (tys' := []) [] rfl
  have hDc := hD.sub (ws' := [(a_1, .inr (3, [.null, .null, .null, .null, .null, .null, .null, .int 0, .int 0]))]) [1] (by decide) rfl
  have hFc := va_free (wc := [(a_1, .inr (3, [.null, .null, .null, .null, .null, .null, .null, .int 0, .int 0]))]) hD hS hA [1] rfl
  refine va_callv (va_runI (As := [.ref r0, .ref d0]) (rest := [.ref a_1, .ref h0]) ⟨hx, hb, hml, hown, hq⟩ (c_Folk_init l hst tE adK adV dC dI a_1 r0 d0 H.size) (tcI 2 hq q_121 q_5 q_119 q_120 rfl rfl rfl (by decide +kernel) ⟨Nat.le_of_ble_eq_true rfl, Nat.le_of_ble_eq_true rfl⟩) (pre.S (pre.of hPc hDc hKc ham hS hFc)) rfl rfl hl.1 rfl (lv_room (Nat.le_of_ble_eq_true rfl)) dX4_init_17 ⟨Nat.le_of_ble_eq_true rfl, Nat.le_of_ble_eq_true rfl⟩) hS (fun q _ h => hFc q h) hFc (fun u t H1 locs ht hvm hw hB hz1 hk1 hS => ?_)
  obtain ⟨q1_3, q2_4, q3_5, q4_6, q5_7, hP1, hK1, hD1⟩ := hB
  rw [ht] at hP1
  have hK1 := va_K.moved hvm.symm hK1
  obtain ⟨hP, hD⟩ := va_join (wr := [(h0, .inr (4, [.null, .null, .null, .int 0, .int 0, .int 0, .int 45]))]) (w1 := [(a_1, .inr (3, [.ref r0, .ref d0, .ref q1_3, .ref q2_4, .ref q3_5, .ref q4_6, .ref q5_7, .int 0, .int 0]))]) (wc := [(a_1, .inr (3, [.null, .null, .null, .null, .null, .null, .null, .int 0, .int 0]))]) hP hD [1] [0] rfl rfl (by decide) (by decide) hk1 hFc hP1 hD1
  have hK := (hK.sub (tys' := []) [] rfl).app hK1
  generalize H1 = H at hP hS ⊢
  have hP : va_P (dC, dI) cls [(h0, .inr (4, [.null, .null, .null, .int 0, .int 0, .int 0, .int 45])), (a_1, .inr (3, [.ref r0, .ref d0, .ref q1_3, .ref q2_4, .ref q3_5, .ref q4_6, .ref q5_7, .int 0, .int 0]))] H := hP
  have hD : va_D A [(h0, .inr (4, [.null, .null, .null, .int 0, .int 0, .int 0, .int 45])), (a_1, .inr (3, [.ref r0, .ref d0, .ref q1_3, .ref q2_4, .ref q3_5, .ref q4_6, .ref q5_7, .int 0, .int 0]))] := hD
  have hK : va_K (dC, dI) cls [] s := hK
  refine W.widen (k := 6) (n := 44) (Nat.le_of_ble_eq_true rfl) (Nat.le_of_ble_eq_true rfl) ?_
  refine va_putF (D := (dC, dI)) (ci := 4) (v := .ref a_1) (ty := (.object "NightfallVillage$Folk")) (C := RX4) (T := TX4) (N := 7) hx hb hq i_X4 tyX4 tyX4_ok nmX4 hown hK hP hD hS 0 rfl rfl 0 (by decide) (hq _ q_208) (fun _ h9 => h9) rfl hin rfl (by decide +kernel) rfl rfl (Nat.le_of_ble_eq_true rfl) dX4_init_20 (fun H locs hP hD hS => ?_)
  have hP : va_P (dC, dI) cls [(h0, .inr (4, [.ref a_1, .null, .null, .int 0, .int 0, .int 0, .int 45])), (a_1, .inr (3, [.ref r0, .ref d0, .ref q1_3, .ref q2_4, .ref q3_5, .ref q4_6, .ref q5_7, .int 0, .int 0]))] H := hP
  have hD : va_D A [(h0, .inr (4, [.ref a_1, .null, .null, .int 0, .int 0, .int 0, .int 45])), (a_1, .inr (3, [.ref r0, .ref d0, .ref q1_3, .ref q2_4, .ref q3_5, .ref q4_6, .ref q5_7, .int 0, .int 0]))] := hD
  refine lv_aload_n hx hb dX4_init_23 rfl (lv_at hl 0 rfl) ?_
  refine va_new (ci := 6) (fs := [.null, .null, .null, .null, .null, .null, .null, .null, .null, .null, .null]) (C := RX6) (T := TX6) (N := 11) hx hb hq i_X6 tyX6 tyX6_ok hown (hq _ q_153) (hq _ q_154) (hq _ q_6) hK hP hD hS hA rfl (fun j hj => by rcases (show j = 0 ∨ j = 1 ∨ j = 2 ∨ j = 3 ∨ j = 4 ∨ j = 5 ∨ j = 6 ∨ j = 7 ∨ j = 8 ∨ j = 9 ∨ j = 10 by omega) with rfl | rfl | rfl | rfl | rfl | rfl | rfl | rfl | rfl | rfl | rfl <;> rfl) (Nat.le_of_ble_eq_true rfl) (Nat.le_of_ble_eq_true rfl) dX4_init_24 (fun a_8 H hP hD hS => ?_)
  have hP : va_P (dC, dI) cls [(h0, .inr (4, [.ref a_1, .null, .null, .int 0, .int 0, .int 0, .int 45])), (a_1, .inr (3, [.ref r0, .ref d0, .ref q1_3, .ref q2_4, .ref q3_5, .ref q4_6, .ref q5_7, .int 0, .int 0])), (a_8, .inr (6, [.null, .null, .null, .null, .null, .null, .null, .null, .null, .null, .null]))] H := hP
  have hD : va_D A [(h0, .inr (4, [.ref a_1, .null, .null, .int 0, .int 0, .int 0, .int 45])), (a_1, .inr (3, [.ref r0, .ref d0, .ref q1_3, .ref q2_4, .ref q3_5, .ref q4_6, .ref q5_7, .int 0, .int 0])), (a_8, .inr (6, [.null, .null, .null, .null, .null, .null, .null, .null, .null, .null, .null]))] := hD
  refine W.widen (k := 7) (n := 55) (Nat.le_of_ble_eq_true rfl) (Nat.le_of_ble_eq_true rfl) ?_
  refine lv_dup hx hb dX4_init_27 rfl ?_
  have hPc := hP.sub (ws' := [(a_8, .inr (6, [.null, .null, .null, .null, .null, .null, .null, .null, .null, .null, .null]))]) [2] rfl
  have hKc := hK.sub (tys' := []) [] rfl
  have hDc := hD.sub (ws' := [(a_8, .inr (6, [.null, .null, .null, .null, .null, .null, .null, .null, .null, .null, .null]))]) [2] (by decide) rfl
  have hFc := va_free (wc := [(a_8, .inr (6, [.null, .null, .null, .null, .null, .null, .null, .null, .null, .null, .null]))]) hD hS hA [2] rfl
  refine va_callv (va_runIN (As := []) (rest := [.ref a_8, .ref h0]) ⟨hx, hb, hml, hown, hq⟩ (c_Night_init l hst tE adK adV dC dI a_8 H.size) (tcIN 0 hq q_157 q_6 q_155 q_156 rfl rfl rfl (by decide +kernel) ⟨Nat.le_of_ble_eq_true rfl, Nat.le_of_ble_eq_true rfl⟩) (pre.S (pre.of hPc hDc hKc ham hS hFc)) rfl rfl hl.1 rfl (lv_room (Nat.le_of_ble_eq_true rfl)) dX4_init_28 ⟨Nat.le_of_ble_eq_true rfl, Nat.le_of_ble_eq_true rfl⟩) hS (fun q _ h => hFc q h) hFc (fun u t H1 locs ht hvm hw hB hz1 hk1 hS => ?_)
  obtain ⟨hP, hD⟩ := va_join (wr := [(h0, .inr (4, [.ref a_1, .null, .null, .int 0, .int 0, .int 0, .int 45])), (a_1, .inr (3, [.ref r0, .ref d0, .ref q1_3, .ref q2_4, .ref q3_5, .ref q4_6, .ref q5_7, .int 0, .int 0]))]) (w1 := []) (wc := [(a_8, .inr (6, [.null, .null, .null, .null, .null, .null, .null, .null, .null, .null, .null]))]) hP hD [2] [0, 1] rfl rfl (by decide) (by decide) hk1 hFc (fun k q h => by simp at h) ⟨fun i j p q h => by simp at h, fun k q h => by simp at h⟩
  generalize H1 = H at hP hS ⊢
  have hP : va_P (dC, dI) cls [(h0, .inr (4, [.ref a_1, .null, .null, .int 0, .int 0, .int 0, .int 45])), (a_1, .inr (3, [.ref r0, .ref d0, .ref q1_3, .ref q2_4, .ref q3_5, .ref q4_6, .ref q5_7, .int 0, .int 0]))] H := hP
  have hD : va_D A [(h0, .inr (4, [.ref a_1, .null, .null, .int 0, .int 0, .int 0, .int 45])), (a_1, .inr (3, [.ref r0, .ref d0, .ref q1_3, .ref q2_4, .ref q3_5, .ref q4_6, .ref q5_7, .int 0, .int 0]))] := hD
  have hK : va_K (dC, dI) cls [] s := hK
  refine W.widen (k := 18) (n := 132) (Nat.le_of_ble_eq_true rfl) (Nat.le_of_ble_eq_true rfl) ?_
  refine va_putF (D := (dC, dI)) (ci := 4) (v := .ref a_8) (ty := (.object "NightfallVillage$Night")) (C := RX4) (T := TX4) (N := 7) hx hb hq i_X4 tyX4 tyX4_ok nmX4 hown hK hP hD hS 0 rfl rfl 1 (by decide) (hq _ q_210) (fun _ h9 => h9) rfl hin rfl (by decide +kernel) rfl rfl (Nat.le_of_ble_eq_true rfl) dX4_init_31 (fun H locs hP hD hS => ?_)
  have hP : va_P (dC, dI) cls [(h0, .inr (4, [.ref a_1, .ref a_8, .null, .int 0, .int 0, .int 0, .int 45])), (a_1, .inr (3, [.ref r0, .ref d0, .ref q1_3, .ref q2_4, .ref q3_5, .ref q4_6, .ref q5_7, .int 0, .int 0]))] H := hP
  have hD : va_D A [(h0, .inr (4, [.ref a_1, .ref a_8, .null, .int 0, .int 0, .int 0, .int 45])), (a_1, .inr (3, [.ref r0, .ref d0, .ref q1_3, .ref q2_4, .ref q3_5, .ref q4_6, .ref q5_7, .int 0, .int 0]))] := hD
  refine lv_aload_n hx hb dX4_init_34 rfl (lv_at hl 0 rfl) ?_
  refine va_new (ci := 1) (fs := [.null, .null]) (C := RX1) (T := TX1) (N := 2) hx hb hq i_X1 tyX1 tyX1_ok hown (hq _ q_195) (hq _ q_196) (hq _ q_7) hK hP hD hS hA rfl (fun j hj => by rcases (show j = 0 ∨ j = 1 by omega) with rfl | rfl <;> rfl) (Nat.le_of_ble_eq_true rfl) (Nat.le_of_ble_eq_true rfl) dX4_init_35 (fun a_10 H hP hD hS => ?_)
  have hP : va_P (dC, dI) cls [(h0, .inr (4, [.ref a_1, .ref a_8, .null, .int 0, .int 0, .int 0, .int 45])), (a_1, .inr (3, [.ref r0, .ref d0, .ref q1_3, .ref q2_4, .ref q3_5, .ref q4_6, .ref q5_7, .int 0, .int 0])), (a_10, .inr (1, [.null, .null]))] H := hP
  have hD : va_D A [(h0, .inr (4, [.ref a_1, .ref a_8, .null, .int 0, .int 0, .int 0, .int 45])), (a_1, .inr (3, [.ref r0, .ref d0, .ref q1_3, .ref q2_4, .ref q3_5, .ref q4_6, .ref q5_7, .int 0, .int 0])), (a_10, .inr (1, [.null, .null]))] := hD
  refine W.widen (k := 19) (n := 134) (Nat.le_of_ble_eq_true rfl) (Nat.le_of_ble_eq_true rfl) ?_
  refine lv_dup hx hb dX4_init_38 rfl ?_
  have hPc := hP.sub (ws' := [(a_10, .inr (1, [.null, .null]))]) [2] rfl
  have hKc := hK.sub (tys' := []) [] rfl
  have hDc := hD.sub (ws' := [(a_10, .inr (1, [.null, .null]))]) [2] (by decide) rfl
  have hFc := va_free (wc := [(a_10, .inr (1, [.null, .null]))]) hD hS hA [2] rfl
  refine va_callv (va_runIN (As := []) (rest := [.ref a_10, .ref h0]) ⟨hx, hb, hml, hown, hq⟩ (c_Day_init l hst tE adK adV dC dI a_10 H.size) (tcIN 0 hq q_199 q_7 q_197 q_198 rfl rfl rfl (by decide +kernel) ⟨Nat.le_of_ble_eq_true rfl, Nat.le_of_ble_eq_true rfl⟩) (pre.S (pre.of hPc hDc hKc ham hS hFc)) rfl rfl hl.1 rfl (lv_room (Nat.le_of_ble_eq_true rfl)) dX4_init_39 ⟨Nat.le_of_ble_eq_true rfl, Nat.le_of_ble_eq_true rfl⟩) hS (fun q _ h => hFc q h) hFc (fun u t H1 locs ht hvm hw hB hz1 hk1 hS => ?_)
  obtain ⟨hP, hD⟩ := va_join (wr := [(h0, .inr (4, [.ref a_1, .ref a_8, .null, .int 0, .int 0, .int 0, .int 45])), (a_1, .inr (3, [.ref r0, .ref d0, .ref q1_3, .ref q2_4, .ref q3_5, .ref q4_6, .ref q5_7, .int 0, .int 0]))]) (w1 := []) (wc := [(a_10, .inr (1, [.null, .null]))]) hP hD [2] [0, 1] rfl rfl (by decide) (by decide) hk1 hFc (fun k q h => by simp at h) ⟨fun i j p q h => by simp at h, fun k q h => by simp at h⟩
  generalize H1 = H at hP hS ⊢
  have hP : va_P (dC, dI) cls [(h0, .inr (4, [.ref a_1, .ref a_8, .null, .int 0, .int 0, .int 0, .int 45])), (a_1, .inr (3, [.ref r0, .ref d0, .ref q1_3, .ref q2_4, .ref q3_5, .ref q4_6, .ref q5_7, .int 0, .int 0]))] H := hP
  have hD : va_D A [(h0, .inr (4, [.ref a_1, .ref a_8, .null, .int 0, .int 0, .int 0, .int 45])), (a_1, .inr (3, [.ref r0, .ref d0, .ref q1_3, .ref q2_4, .ref q3_5, .ref q4_6, .ref q5_7, .int 0, .int 0]))] := hD
  have hK : va_K (dC, dI) cls [] s := hK
  refine W.widen (k := 21) (n := 148) (Nat.le_of_ble_eq_true rfl) (Nat.le_of_ble_eq_true rfl) ?_
  refine va_putF (D := (dC, dI)) (ci := 4) (v := .ref a_10) (ty := (.object "NightfallVillage$Day")) (C := RX4) (T := TX4) (N := 7) hx hb hq i_X4 tyX4 tyX4_ok nmX4 hown hK hP hD hS 0 rfl rfl 2 (by decide) (hq _ q_212) (fun _ h9 => h9) rfl hin rfl (by decide +kernel) rfl rfl (Nat.le_of_ble_eq_true rfl) dX4_init_42 (fun H locs hP hD hS => ?_)
  have hP : va_P (dC, dI) cls [(h0, .inr (4, [.ref a_1, .ref a_8, .ref a_10, .int 0, .int 0, .int 0, .int 45])), (a_1, .inr (3, [.ref r0, .ref d0, .ref q1_3, .ref q2_4, .ref q3_5, .ref q4_6, .ref q5_7, .int 0, .int 0]))] H := hP
  have hD : va_D A [(h0, .inr (4, [.ref a_1, .ref a_8, .ref a_10, .int 0, .int 0, .int 0, .int 45])), (a_1, .inr (3, [.ref r0, .ref d0, .ref q1_3, .ref q2_4, .ref q3_5, .ref q4_6, .ref q5_7, .int 0, .int 0]))] := hD
  refine W.widen (k := 21) (n := 148) (Nat.le_of_ble_eq_true rfl) (Nat.le_of_ble_eq_true rfl) ?_
  have hP9 := hP.sub (ws' := [(h0, .inr (4, [.ref a_1, .ref a_8, .ref a_10, .int 0, .int 0, .int 0, .int 45])), (a_1, .inr (3, [.ref r0, .ref d0, .ref q1_3, .ref q2_4, .ref q3_5, .ref q4_6, .ref q5_7, .int 0, .int 0]))]) [0, 1] rfl
  have hD9 := hD.sub (ws' := [(h0, .inr (4, [.ref a_1, .ref a_8, .ref a_10, .int 0, .int 0, .int 0, .int 45])), (a_1, .inr (3, [.ref r0, .ref d0, .ref q1_3, .ref q2_4, .ref q3_5, .ref q4_6, .ref q5_7, .int 0, .int 0]))]) [0, 1] (by decide) rfl
  have hK9 := hK.sub (tys' := []) [] rfl
  exact W.vret hx hb hr (fun t ht hW => ⟨⟨(), rfl, trivial, ⟨a_1, a_8, a_10, q1_3, q2_4, q3_5, q4_6, q5_7, by rw [ht]; exact hP9, va_K.moved hW.alike hK9, hD9⟩⟩, hS.F ht⟩) hS.2.2 dX4_init_45
abbrev cX9_init : ByteArray := prog_11_method_1_code
def yX9_init : MethodName := ⟨RX9, "<init>", "(LNightfallVillage$Roles;LNightfallVillage$Deal;LNightfallVillage$Folk;LNightfallVillage$Sights;)V"⟩
theorem dX9_init_0 : decode cX9_init 0 = .ok (.aload_n 0, 1) := by decide +kernel
theorem dX9_init_1 : decode cX9_init 1 = .ok (.invokespecial 3, 3) := by decide +kernel
theorem q_296 : (Cond.methodLink "NightfallVillage$Worlds" 3 objectInit) ∈ tw := tw_in (i := 296) (by decide +kernel) (by decide +kernel)
theorem dX9_init_4 : decode cX9_init 4 = .ok (.aload_n 0, 1) := by decide +kernel
theorem dX9_init_5 : decode cX9_init 5 = .ok (.bipush 7, 2) := by decide +kernel
theorem dX9_init_7 : decode cX9_init 7 = .ok (.newarray .int, 2) := by decide +kernel
theorem dX9_init_9 : decode cX9_init 9 = .ok (.putfield 9, 3) := by decide +kernel
theorem q_301 : (Cond.fieldLink "NightfallVillage$Worlds" 9 "NightfallVillage$Worlds" "world" "[I") ∈ tw := tw_in (i := 301) (by decide +kernel) (by decide +kernel)
theorem dX9_init_12 : decode cX9_init 12 = .ok (.aload_n 0, 1) := by decide +kernel
theorem dX9_init_13 : decode cX9_init 13 = .ok (.bipush 8, 2) := by decide +kernel
theorem dX9_init_15 : decode cX9_init 15 = .ok (.newarray .int, 2) := by decide +kernel
theorem dX9_init_17 : decode cX9_init 17 = .ok (.putfield 15, 3) := by decide +kernel
theorem q_302 : (Cond.fieldLink "NightfallVillage$Worlds" 15 "NightfallVillage$Worlds" "left" "[I") ∈ tw := tw_in (i := 302) (by decide +kernel) (by decide +kernel)
theorem dX9_init_20 : decode cX9_init 20 = .ok (.aload_n 0, 1) := by decide +kernel
theorem dX9_init_21 : decode cX9_init 21 = .ok (.bipush 56, 2) := by decide +kernel
theorem dX9_init_23 : decode cX9_init 23 = .ok (.newarray .int, 2) := by decide +kernel
theorem dX9_init_25 : decode cX9_init 25 = .ok (.putfield 18, 3) := by decide +kernel
theorem q_303 : (Cond.fieldLink "NightfallVillage$Worlds" 18 "NightfallVillage$Worlds" "tallies" "[I") ∈ tw := tw_in (i := 303) (by decide +kernel) (by decide +kernel)
theorem dX9_init_28 : decode cX9_init 28 = .ok (.aload_n 0, 1) := by decide +kernel
theorem dX9_init_29 : decode cX9_init 29 = .ok (.iconst (-1), 1) := by decide +kernel
theorem dX9_init_30 : decode cX9_init 30 = .ok (.putfield 21, 3) := by decide +kernel
theorem q_304 : (Cond.fieldLink "NightfallVillage$Worlds" 21 "NightfallVillage$Worlds" "knower" "I") ∈ tw := tw_in (i := 304) (by decide +kernel) (by decide +kernel)
theorem dX9_init_33 : decode cX9_init 33 = .ok (.aload_n 0, 1) := by decide +kernel
theorem dX9_init_34 : decode cX9_init 34 = .ok (.aload_n 1, 1) := by decide +kernel
theorem dX9_init_35 : decode cX9_init 35 = .ok (.putfield 25, 3) := by decide +kernel
theorem q_297 : (Cond.fieldLink "NightfallVillage$Worlds" 25 "NightfallVillage$Worlds" "roles" "LNightfallVillage$Roles;") ∈ tw := tw_in (i := 297) (by decide +kernel) (by decide +kernel)
theorem dX9_init_38 : decode cX9_init 38 = .ok (.aload_n 0, 1) := by decide +kernel
theorem dX9_init_39 : decode cX9_init 39 = .ok (.aload_n 2, 1) := by decide +kernel
theorem dX9_init_40 : decode cX9_init 40 = .ok (.putfield 29, 3) := by decide +kernel
theorem q_298 : (Cond.fieldLink "NightfallVillage$Worlds" 29 "NightfallVillage$Worlds" "deal" "LNightfallVillage$Deal;") ∈ tw := tw_in (i := 298) (by decide +kernel) (by decide +kernel)
theorem dX9_init_43 : decode cX9_init 43 = .ok (.aload_n 0, 1) := by decide +kernel
theorem dX9_init_44 : decode cX9_init 44 = .ok (.aload_n 3, 1) := by decide +kernel
theorem dX9_init_45 : decode cX9_init 45 = .ok (.putfield 33, 3) := by decide +kernel
theorem q_299 : (Cond.fieldLink "NightfallVillage$Worlds" 33 "NightfallVillage$Worlds" "folk" "LNightfallVillage$Folk;") ∈ tw := tw_in (i := 299) (by decide +kernel) (by decide +kernel)
theorem dX9_init_48 : decode cX9_init 48 = .ok (.aload_n 0, 1) := by decide +kernel
theorem dX9_init_49 : decode cX9_init 49 = .ok (.aload 4, 2) := by decide +kernel
theorem dX9_init_51 : decode cX9_init 51 = .ok (.putfield 37, 3) := by decide +kernel
theorem q_300 : (Cond.fieldLink "NightfallVillage$Worlds" 37 "NightfallVillage$Worlds" "sights" "LNightfallVillage$Sights;") ∈ tw := tw_in (i := 300) (by decide +kernel) (by decide +kernel)
theorem dX9_init_54 : decode cX9_init 54 = .ok (.return_, 1) := by decide +kernel
set_option maxHeartbeats 4000000 in
set_option maxRecDepth 100000 in
theorem c_Worlds_init (l : Launch) (hst : l.stackTraces = false) (tE : Nat) (adK adV : Nat → Nat) (dC : Nat → ClassId) (dI : Nat → Nat → Nat) (h0 : Nat) (r0 : Nat) (d0 : Nat) (f0 : Nat) (s0 : Nat) (sz : Nat) : Met l yX9_init (Cond.code yX9_init cX9_init 5 none :: tw) ({ frames := 1, cells := 3, slots := 71, locals := 12 }) (va_Pc [.ref h0, .ref r0, .ref d0, .ref f0, .ref s0] (pre tE adK adV (dC, dI) [(h0, .inr (9, [.null, .null, .null, .null, .null, .null, .null, .int 0, .int 0]))] [] sz)) (va_Qv (fun (_ : Unit) => True) (fun (_ : Unit) (_ : State) => True) (va_A [(h0, .inr (9, [.null, .null, .null, .null, .null, .null, .null, .int 0, .int 0]))] sz)) 3 71 (va_A [(h0, .inr (9, [.null, .null, .null, .null, .null, .null, .null, .int 0, .int 0]))] sz) := by
  refine Met.ofW (cc := cX9_init) (maxL := 5) (ret := none) (by decide) rfl ?_
  intro p e s m args below meth c s₁ B hml hv
  obtain ⟨rfl, hsz, hP, hK, hD0, ham⟩ := hv
  have hx := B.exec
  have hb := B.bytes
  have hr := B.returns
  have hts := atoms_spec B.pre
  have hq : ∀ w ∈ tw, w.before _ s = true := fun w h => hts w (List.mem_cons_of_mem _ h)
  have hown : s.vm.findClass RX9 = some m.cls := findClass_of_methodNamed B.named
  have hlocks := B.notSynchronized
  have hin : meth.name = "<init>" := (name_of_methodNamed B.named B.method).1
  subst hsz
  have hD := hD0.self (sz := s.heap.size)
  generalize hAe : va_A [(h0, .inr (9, [.null, .null, .null, .null, .null, .null, .null, .int 0, .int 0]))] s.heap.size = A at hD ham ⊢
  have hA : ∀ q : Nat, s.heap.size ≤ q → A q := fun q h => by rw [← hAe]; exact Or.inr h
  have hS : va_S A s.heap s.heap [] := va_S.rf
  have hP : va_P (dC, dI) cls [(h0, .inr (9, [.null, .null, .null, .null, .null, .null, .null, .int 0, .int 0]))] s.heap := hP
  have hl := lv_entry ([.ref h0, .ref r0, .ref d0, .ref f0, .ref s0]) (n := 5) (Nat.le_of_ble_eq_true rfl)
  rw [lg_entry_eq]
  generalize (lg_sl ([.ref h0, .ref r0, .ref d0, .ref f0, .ref s0]) ++ List.replicate (5 - (lg_sl ([.ref h0, .ref r0, .ref d0, .ref f0, .ref s0])).length) Slot.unset).toArray = ls at hl ⊢
  have hl : lv_has ls 5 [(0, .ref h0), (1, .ref r0), (2, .ref d0), (3, .ref f0), (4, .ref s0)] := hl
  refine lv_aload_n hx hb dX9_init_0 rfl (lv_at hl 0 rfl) ?_
  refine W.objInit hx hb hown (hq _ q_296) (hq _ q_45) (hq _ q_46) rfl (by rw [hml]; exact hl.1) rfl dX9_init_1 (Nat.le_of_ble_eq_true rfl) (Nat.le_of_ble_eq_true rfl) ?_
  refine W.eq (g2 := F0 m 4 ls []) rfl ?_
  refine lv_aload_n hx hb dX9_init_4 rfl (lv_at hl 0 rfl) ?_
  refine lv_bipush (v := 7) hx hb dX9_init_5 (by decide) ?_
  refine va_newa (atype := .int) (a0 := (7, .inl (fun _ => 0))) hx hb (hq _ q_81) rfl hK hP hD hS hA (fun _ => rfl) (by decide) (by decide) (Nat.le_of_ble_eq_true rfl) (Nat.le_of_ble_eq_true rfl) (Nat.le_of_ble_eq_true rfl) dX9_init_7 (fun a_1 cA_2 H hK hP hD hS => ?_)
  have hP : va_P (dC, dI) cls [(h0, .inr (9, [.null, .null, .null, .null, .null, .null, .null, .int 0, .int 0])), (a_1, .inl (cA_2, 7, .inl (fun _ => 0)))] H := hP
  have hD : va_D A [(h0, .inr (9, [.null, .null, .null, .null, .null, .null, .null, .int 0, .int 0])), (a_1, .inl (cA_2, 7, .inl (fun _ => 0)))] := hD
  have hK : va_K (dC, dI) cls [(cA_2, .int)] s := hK
  refine W.widen (k := 1) (n := 7) (Nat.le_of_ble_eq_true rfl) (Nat.le_of_ble_eq_true rfl) ?_
  refine va_putF (D := (dC, dI)) (ci := 9) (v := .ref a_1) (ty := (.array .int)) (C := RX9) (T := TX9) (N := 9) hx hb hq i_X9 tyX9 tyX9_ok nmX9 hown hK hP hD hS 0 rfl rfl 4 (by decide) (hq _ q_301) (fun _ h9 => h9) rfl hin rfl (by decide +kernel) rfl rfl (Nat.le_of_ble_eq_true rfl) dX9_init_9 (fun H locs hP hD hS => ?_)
  have hP : va_P (dC, dI) cls [(h0, .inr (9, [.null, .null, .null, .null, .ref a_1, .null, .null, .int 0, .int 0])), (a_1, .inl (cA_2, 7, .inl (fun _ => 0)))] H := hP
  have hD : va_D A [(h0, .inr (9, [.null, .null, .null, .null, .ref a_1, .null, .null, .int 0, .int 0])), (a_1, .inl (cA_2, 7, .inl (fun _ => 0)))] := hD
  refine lv_aload_n hx hb dX9_init_12 rfl (lv_at hl 0 rfl) ?_
  refine lv_bipush (v := 8) hx hb dX9_init_13 (by decide) ?_
  refine va_newa (atype := .int) (a0 := (8, .inl (fun _ => 0))) hx hb (hq _ q_81) rfl hK hP hD hS hA (fun _ => rfl) (by decide) (by decide) (Nat.le_of_ble_eq_true rfl) (Nat.le_of_ble_eq_true rfl) (Nat.le_of_ble_eq_true rfl) dX9_init_15 (fun a_3 cA_4 H hK hP hD hS => ?_)
  have hP : va_P (dC, dI) cls [(h0, .inr (9, [.null, .null, .null, .null, .ref a_1, .null, .null, .int 0, .int 0])), (a_1, .inl (cA_2, 7, .inl (fun _ => 0))), (a_3, .inl (cA_4, 8, .inl (fun _ => 0)))] H := hP
  have hD : va_D A [(h0, .inr (9, [.null, .null, .null, .null, .ref a_1, .null, .null, .int 0, .int 0])), (a_1, .inl (cA_2, 7, .inl (fun _ => 0))), (a_3, .inl (cA_4, 8, .inl (fun _ => 0)))] := hD
  have hK : va_K (dC, dI) cls [(cA_2, .int), (cA_4, .int)] s := hK
  refine W.widen (k := 2) (n := 15) (Nat.le_of_ble_eq_true rfl) (Nat.le_of_ble_eq_true rfl) ?_
  refine va_putF (D := (dC, dI)) (ci := 9) (v := .ref a_3) (ty := (.array .int)) (C := RX9) (T := TX9) (N := 9) hx hb hq i_X9 tyX9 tyX9_ok nmX9 hown hK hP hD hS 0 rfl rfl 5 (by decide) (hq _ q_302) (fun _ h9 => h9) rfl hin rfl (by decide +kernel) rfl rfl (Nat.le_of_ble_eq_true rfl) dX9_init_17 (fun H locs hP hD hS => ?_)
  have hP : va_P (dC, dI) cls [(h0, .inr (9, [.null, .null, .null, .null, .ref a_1, .ref a_3, .null, .int 0, .int 0])), (a_1, .inl (cA_2, 7, .inl (fun _ => 0))), (a_3, .inl (cA_4, 8, .inl (fun _ => 0)))] H := hP
  have hD : va_D A [(h0, .inr (9, [.null, .null, .null, .null, .ref a_1, .ref a_3, .null, .int 0, .int 0])), (a_1, .inl (cA_2, 7, .inl (fun _ => 0))), (a_3, .inl (cA_4, 8, .inl (fun _ => 0)))] := hD
  refine lv_aload_n hx hb dX9_init_20 rfl (lv_at hl 0 rfl) ?_
  refine lv_bipush (v := 56) hx hb dX9_init_21 (by decide) ?_
  refine va_newa (atype := .int) (a0 := (56, .inl (fun _ => 0))) hx hb (hq _ q_81) rfl hK hP hD hS hA (fun _ => rfl) (by decide) (by decide) (Nat.le_of_ble_eq_true rfl) (Nat.le_of_ble_eq_true rfl) (Nat.le_of_ble_eq_true rfl) dX9_init_23 (fun a_5 cA_6 H hK hP hD hS => ?_)
  have hP : va_P (dC, dI) cls [(h0, .inr (9, [.null, .null, .null, .null, .ref a_1, .ref a_3, .null, .int 0, .int 0])), (a_1, .inl (cA_2, 7, .inl (fun _ => 0))), (a_3, .inl (cA_4, 8, .inl (fun _ => 0))), (a_5, .inl (cA_6, 56, .inl (fun _ => 0)))] H := hP
  have hD : va_D A [(h0, .inr (9, [.null, .null, .null, .null, .ref a_1, .ref a_3, .null, .int 0, .int 0])), (a_1, .inl (cA_2, 7, .inl (fun _ => 0))), (a_3, .inl (cA_4, 8, .inl (fun _ => 0))), (a_5, .inl (cA_6, 56, .inl (fun _ => 0)))] := hD
  have hK : va_K (dC, dI) cls [(cA_2, .int), (cA_4, .int), (cA_6, .int)] s := hK
  refine W.widen (k := 3) (n := 71) (Nat.le_of_ble_eq_true rfl) (Nat.le_of_ble_eq_true rfl) ?_
  refine va_putF (D := (dC, dI)) (ci := 9) (v := .ref a_5) (ty := (.array .int)) (C := RX9) (T := TX9) (N := 9) hx hb hq i_X9 tyX9 tyX9_ok nmX9 hown hK hP hD hS 0 rfl rfl 6 (by decide) (hq _ q_303) (fun _ h9 => h9) rfl hin rfl (by decide +kernel) rfl rfl (Nat.le_of_ble_eq_true rfl) dX9_init_25 (fun H locs hP hD hS => ?_)
  have hP : va_P (dC, dI) cls [(h0, .inr (9, [.null, .null, .null, .null, .ref a_1, .ref a_3, .ref a_5, .int 0, .int 0])), (a_1, .inl (cA_2, 7, .inl (fun _ => 0))), (a_3, .inl (cA_4, 8, .inl (fun _ => 0))), (a_5, .inl (cA_6, 56, .inl (fun _ => 0)))] H := hP
  have hD : va_D A [(h0, .inr (9, [.null, .null, .null, .null, .ref a_1, .ref a_3, .ref a_5, .int 0, .int 0])), (a_1, .inl (cA_2, 7, .inl (fun _ => 0))), (a_3, .inl (cA_4, 8, .inl (fun _ => 0))), (a_5, .inl (cA_6, 56, .inl (fun _ => 0)))] := hD
  refine lv_aload_n hx hb dX9_init_28 rfl (lv_at hl 0 rfl) ?_
  refine lv_iconst (v := (-1)) hx hb dX9_init_29 (by decide) ?_
  refine va_put (D := (dC, dI)) (ci := 9) (v := .int (-1)) (ty := .int) (C := RX9) (T := TX9) (N := 9) hx hb hq i_X9 tyX9 tyX9_ok nmX9 hown hK hP hD hS 0 rfl rfl 7 (by decide) (hq _ q_304) (fun _ h9 => h9) rfl (by decide +kernel) rfl rfl (Nat.le_of_ble_eq_true rfl) dX9_init_30 (fun H locs hP hD hS => ?_)
  have hP : va_P (dC, dI) cls [(h0, .inr (9, [.null, .null, .null, .null, .ref a_1, .ref a_3, .ref a_5, .int (-1), .int 0])), (a_1, .inl (cA_2, 7, .inl (fun _ => 0))), (a_3, .inl (cA_4, 8, .inl (fun _ => 0))), (a_5, .inl (cA_6, 56, .inl (fun _ => 0)))] H := hP
  have hD : va_D A [(h0, .inr (9, [.null, .null, .null, .null, .ref a_1, .ref a_3, .ref a_5, .int (-1), .int 0])), (a_1, .inl (cA_2, 7, .inl (fun _ => 0))), (a_3, .inl (cA_4, 8, .inl (fun _ => 0))), (a_5, .inl (cA_6, 56, .inl (fun _ => 0)))] := hD
  refine lv_aload_n hx hb dX9_init_33 rfl (lv_at hl 0 rfl) ?_
  refine lv_aload_n hx hb dX9_init_34 rfl (lv_at hl 1 rfl) ?_
  refine va_putF (D := (dC, dI)) (ci := 9) (v := .ref r0) (ty := (.object "NightfallVillage$Roles")) (C := RX9) (T := TX9) (N := 9) hx hb hq i_X9 tyX9 tyX9_ok nmX9 hown hK hP hD hS 0 rfl rfl 0 (by decide) (hq _ q_297) (fun _ h9 => h9) rfl hin rfl (by decide +kernel) rfl rfl (Nat.le_of_ble_eq_true rfl) dX9_init_35 (fun H locs hP hD hS => ?_)
  have hP : va_P (dC, dI) cls [(h0, .inr (9, [.ref r0, .null, .null, .null, .ref a_1, .ref a_3, .ref a_5, .int (-1), .int 0])), (a_1, .inl (cA_2, 7, .inl (fun _ => 0))), (a_3, .inl (cA_4, 8, .inl (fun _ => 0))), (a_5, .inl (cA_6, 56, .inl (fun _ => 0)))] H := hP
  have hD : va_D A [(h0, .inr (9, [.ref r0, .null, .null, .null, .ref a_1, .ref a_3, .ref a_5, .int (-1), .int 0])), (a_1, .inl (cA_2, 7, .inl (fun _ => 0))), (a_3, .inl (cA_4, 8, .inl (fun _ => 0))), (a_5, .inl (cA_6, 56, .inl (fun _ => 0)))] := hD
  refine lv_aload_n hx hb dX9_init_38 rfl (lv_at hl 0 rfl) ?_
  refine lv_aload_n hx hb dX9_init_39 rfl (lv_at hl 2 rfl) ?_
  refine va_putF (D := (dC, dI)) (ci := 9) (v := .ref d0) (ty := (.object "NightfallVillage$Deal")) (C := RX9) (T := TX9) (N := 9) hx hb hq i_X9 tyX9 tyX9_ok nmX9 hown hK hP hD hS 0 rfl rfl 1 (by decide) (hq _ q_298) (fun _ h9 => h9) rfl hin rfl (by decide +kernel) rfl rfl (Nat.le_of_ble_eq_true rfl) dX9_init_40 (fun H locs hP hD hS => ?_)
  have hP : va_P (dC, dI) cls [(h0, .inr (9, [.ref r0, .ref d0, .null, .null, .ref a_1, .ref a_3, .ref a_5, .int (-1), .int 0])), (a_1, .inl (cA_2, 7, .inl (fun _ => 0))), (a_3, .inl (cA_4, 8, .inl (fun _ => 0))), (a_5, .inl (cA_6, 56, .inl (fun _ => 0)))] H := hP
  have hD : va_D A [(h0, .inr (9, [.ref r0, .ref d0, .null, .null, .ref a_1, .ref a_3, .ref a_5, .int (-1), .int 0])), (a_1, .inl (cA_2, 7, .inl (fun _ => 0))), (a_3, .inl (cA_4, 8, .inl (fun _ => 0))), (a_5, .inl (cA_6, 56, .inl (fun _ => 0)))] := hD
  refine lv_aload_n hx hb dX9_init_43 rfl (lv_at hl 0 rfl) ?_
  refine lv_aload_n hx hb dX9_init_44 rfl (lv_at hl 3 rfl) ?_
  refine va_putF (D := (dC, dI)) (ci := 9) (v := .ref f0) (ty := (.object "NightfallVillage$Folk")) (C := RX9) (T := TX9) (N := 9) hx hb hq i_X9 tyX9 tyX9_ok nmX9 hown hK hP hD hS 0 rfl rfl 2 (by decide) (hq _ q_299) (fun _ h9 => h9) rfl hin rfl (by decide +kernel) rfl rfl (Nat.le_of_ble_eq_true rfl) dX9_init_45 (fun H locs hP hD hS => ?_)
  have hP : va_P (dC, dI) cls [(h0, .inr (9, [.ref r0, .ref d0, .ref f0, .null, .ref a_1, .ref a_3, .ref a_5, .int (-1), .int 0])), (a_1, .inl (cA_2, 7, .inl (fun _ => 0))), (a_3, .inl (cA_4, 8, .inl (fun _ => 0))), (a_5, .inl (cA_6, 56, .inl (fun _ => 0)))] H := hP
  have hD : va_D A [(h0, .inr (9, [.ref r0, .ref d0, .ref f0, .null, .ref a_1, .ref a_3, .ref a_5, .int (-1), .int 0])), (a_1, .inl (cA_2, 7, .inl (fun _ => 0))), (a_3, .inl (cA_4, 8, .inl (fun _ => 0))), (a_5, .inl (cA_6, 56, .inl (fun _ => 0)))] := hD
  refine lv_aload_n hx hb dX9_init_48 rfl (lv_at hl 0 rfl) ?_
  refine lv_aload hx hb dX9_init_49 (lv_at hl 4 rfl) ?_
  refine va_putF (D := (dC, dI)) (ci := 9) (v := .ref s0) (ty := (.object "NightfallVillage$Sights")) (C := RX9) (T := TX9) (N := 9) hx hb hq i_X9 tyX9 tyX9_ok nmX9 hown hK hP hD hS 0 rfl rfl 3 (by decide) (hq _ q_300) (fun _ h9 => h9) rfl hin rfl (by decide +kernel) rfl rfl (Nat.le_of_ble_eq_true rfl) dX9_init_51 (fun H locs hP hD hS => ?_)
  have hP : va_P (dC, dI) cls [(h0, .inr (9, [.ref r0, .ref d0, .ref f0, .ref s0, .ref a_1, .ref a_3, .ref a_5, .int (-1), .int 0])), (a_1, .inl (cA_2, 7, .inl (fun _ => 0))), (a_3, .inl (cA_4, 8, .inl (fun _ => 0))), (a_5, .inl (cA_6, 56, .inl (fun _ => 0)))] H := hP
  have hD : va_D A [(h0, .inr (9, [.ref r0, .ref d0, .ref f0, .ref s0, .ref a_1, .ref a_3, .ref a_5, .int (-1), .int 0])), (a_1, .inl (cA_2, 7, .inl (fun _ => 0))), (a_3, .inl (cA_4, 8, .inl (fun _ => 0))), (a_5, .inl (cA_6, 56, .inl (fun _ => 0)))] := hD
  refine W.widen (k := 3) (n := 71) (Nat.le_of_ble_eq_true rfl) (Nat.le_of_ble_eq_true rfl) ?_
  exact W.vret hx hb hr (fun t ht hW => ⟨⟨(), rfl, trivial, trivial⟩, hS.F ht⟩) hS.2.2 dX9_init_54
abbrev cX10_init : ByteArray := prog_1_method_1_code
def yX10_init : MethodName := ⟨RX10, "<init>", "()V"⟩
theorem dX10_init_0 : decode cX10_init 0 = .ok (.aload_n 0, 1) := by decide +kernel
theorem dX10_init_1 : decode cX10_init 1 = .ok (.invokespecial 1, 3) := by decide +kernel
theorem q_44 : (Cond.methodLink "NightfallVillage" 1 objectInit) ∈ tw := tw_in (i := 44) (by decide +kernel) (by decide +kernel)
theorem dX10_init_4 : decode cX10_init 4 = .ok (.aload_n 0, 1) := by decide +kernel
theorem dX10_init_5 : decode cX10_init 5 = .ok (.new 7, 3) := by decide +kernel
theorem q_47 : (Cond.classLink "NightfallVillage" 7 "NightfallVillage$Roles") ∈ tw := tw_in (i := 47) (by decide +kernel) (by decide +kernel)
theorem q_48 : (Cond.instantiable "NightfallVillage$Roles" 8) ∈ tw := tw_in (i := 48) (by decide +kernel) (by decide +kernel)
theorem q_2 : (Cond.initialized "NightfallVillage$Roles") ∈ tw := tw_in (i := 2) (by decide +kernel) (by decide +kernel)
theorem dX10_init_8 : decode cX10_init 8 = .ok (.dup, 1) := by decide +kernel
theorem dX10_init_9 : decode cX10_init 9 = .ok (.invokespecial 9, 3) := by decide +kernel
theorem q_51 : (Cond.code yX7_init cX7_init 1 none) ∈ tw := tw_in (i := 51) (by decide +kernel) (by decide +kernel)
theorem q_49 : (Cond.methodLinkNest "NightfallVillage" 9 yX7_init "NightfallVillage") ∈ tw := tw_in (i := 49) (by decide +kernel) (by decide +kernel)
theorem q_50 : (Cond.instanceMethod yX7_init) ∈ tw := tw_in (i := 50) (by decide +kernel) (by decide +kernel)
theorem dX10_init_12 : decode cX10_init 12 = .ok (.putfield 10, 3) := by decide +kernel
theorem q_326 : (Cond.fieldLink "NightfallVillage" 10 "NightfallVillage" "roles" "LNightfallVillage$Roles;") ∈ tw := tw_in (i := 326) (by decide +kernel) (by decide +kernel)
theorem dX10_init_15 : decode cX10_init 15 = .ok (.aload_n 0, 1) := by decide +kernel
theorem dX10_init_16 : decode cX10_init 16 = .ok (.new 16, 3) := by decide +kernel
theorem q_83 : (Cond.classLink "NightfallVillage" 16 "NightfallVillage$Deal") ∈ tw := tw_in (i := 83) (by decide +kernel) (by decide +kernel)
theorem q_84 : (Cond.instantiable "NightfallVillage$Deal" 6) ∈ tw := tw_in (i := 84) (by decide +kernel) (by decide +kernel)
theorem q_3 : (Cond.initialized "NightfallVillage$Deal") ∈ tw := tw_in (i := 3) (by decide +kernel) (by decide +kernel)
theorem dX10_init_19 : decode cX10_init 19 = .ok (.dup, 1) := by decide +kernel
theorem dX10_init_20 : decode cX10_init 20 = .ok (.invokespecial 18, 3) := by decide +kernel
theorem q_87 : (Cond.code yX2_init cX2_init 1 none) ∈ tw := tw_in (i := 87) (by decide +kernel) (by decide +kernel)
theorem q_85 : (Cond.methodLinkNest "NightfallVillage" 18 yX2_init "NightfallVillage") ∈ tw := tw_in (i := 85) (by decide +kernel) (by decide +kernel)
theorem q_86 : (Cond.instanceMethod yX2_init) ∈ tw := tw_in (i := 86) (by decide +kernel) (by decide +kernel)
theorem dX10_init_23 : decode cX10_init 23 = .ok (.putfield 19, 3) := by decide +kernel
theorem q_327 : (Cond.fieldLink "NightfallVillage" 19 "NightfallVillage" "deal" "LNightfallVillage$Deal;") ∈ tw := tw_in (i := 327) (by decide +kernel) (by decide +kernel)
theorem dX10_init_26 : decode cX10_init 26 = .ok (.aload_n 0, 1) := by decide +kernel
theorem dX10_init_27 : decode cX10_init 27 = .ok (.new 23, 3) := by decide +kernel
theorem q_111 : (Cond.classLink "NightfallVillage" 23 "NightfallVillage$Game") ∈ tw := tw_in (i := 111) (by decide +kernel) (by decide +kernel)
theorem q_112 : (Cond.instantiable "NightfallVillage$Game" 7) ∈ tw := tw_in (i := 112) (by decide +kernel) (by decide +kernel)
theorem q_4 : (Cond.initialized "NightfallVillage$Game") ∈ tw := tw_in (i := 4) (by decide +kernel) (by decide +kernel)
theorem dX10_init_30 : decode cX10_init 30 = .ok (.dup, 1) := by decide +kernel
theorem dX10_init_31 : decode cX10_init 31 = .ok (.aload_n 0, 1) := by decide +kernel
theorem dX10_init_32 : decode cX10_init 32 = .ok (.getfield 10, 3) := by decide +kernel
theorem dX10_init_35 : decode cX10_init 35 = .ok (.aload_n 0, 1) := by decide +kernel
theorem dX10_init_36 : decode cX10_init 36 = .ok (.getfield 19, 3) := by decide +kernel
theorem dX10_init_39 : decode cX10_init 39 = .ok (.invokespecial 25, 3) := by decide +kernel
theorem q_115 : (Cond.code yX4_init cX4_init 3 none) ∈ tw := tw_in (i := 115) (by decide +kernel) (by decide +kernel)
theorem q_113 : (Cond.methodLink "NightfallVillage" 25 yX4_init) ∈ tw := tw_in (i := 113) (by decide +kernel) (by decide +kernel)
theorem q_114 : (Cond.instanceMethod yX4_init) ∈ tw := tw_in (i := 114) (by decide +kernel) (by decide +kernel)
theorem dX10_init_42 : decode cX10_init 42 = .ok (.putfield 28, 3) := by decide +kernel
theorem q_328 : (Cond.fieldLink "NightfallVillage" 28 "NightfallVillage" "game" "LNightfallVillage$Game;") ∈ tw := tw_in (i := 328) (by decide +kernel) (by decide +kernel)
theorem dX10_init_45 : decode cX10_init 45 = .ok (.aload_n 0, 1) := by decide +kernel
theorem dX10_init_46 : decode cX10_init 46 = .ok (.new 23, 3) := by decide +kernel
theorem dX10_init_49 : decode cX10_init 49 = .ok (.dup, 1) := by decide +kernel
theorem dX10_init_50 : decode cX10_init 50 = .ok (.aload_n 0, 1) := by decide +kernel
theorem dX10_init_51 : decode cX10_init 51 = .ok (.getfield 10, 3) := by decide +kernel
theorem dX10_init_54 : decode cX10_init 54 = .ok (.aload_n 0, 1) := by decide +kernel
theorem dX10_init_55 : decode cX10_init 55 = .ok (.getfield 19, 3) := by decide +kernel
theorem dX10_init_58 : decode cX10_init 58 = .ok (.invokespecial 25, 3) := by decide +kernel
theorem dX10_init_61 : decode cX10_init 61 = .ok (.putfield 32, 3) := by decide +kernel
theorem q_329 : (Cond.fieldLink "NightfallVillage" 32 "NightfallVillage" "otherGame" "LNightfallVillage$Game;") ∈ tw := tw_in (i := 329) (by decide +kernel) (by decide +kernel)
theorem dX10_init_64 : decode cX10_init 64 = .ok (.aload_n 0, 1) := by decide +kernel
theorem dX10_init_65 : decode cX10_init 65 = .ok (.new 35, 3) := by decide +kernel
theorem q_237 : (Cond.classLink "NightfallVillage" 35 "NightfallVillage$History") ∈ tw := tw_in (i := 237) (by decide +kernel) (by decide +kernel)
theorem q_238 : (Cond.instantiable "NightfallVillage$History" 2) ∈ tw := tw_in (i := 238) (by decide +kernel) (by decide +kernel)
theorem q_8 : (Cond.initialized "NightfallVillage$History") ∈ tw := tw_in (i := 8) (by decide +kernel) (by decide +kernel)
theorem dX10_init_68 : decode cX10_init 68 = .ok (.dup, 1) := by decide +kernel
theorem dX10_init_69 : decode cX10_init 69 = .ok (.invokespecial 37, 3) := by decide +kernel
theorem q_241 : (Cond.code yX5_init cX5_init 1 none) ∈ tw := tw_in (i := 241) (by decide +kernel) (by decide +kernel)
theorem q_239 : (Cond.methodLinkNest "NightfallVillage" 37 yX5_init "NightfallVillage") ∈ tw := tw_in (i := 239) (by decide +kernel) (by decide +kernel)
theorem q_240 : (Cond.instanceMethod yX5_init) ∈ tw := tw_in (i := 240) (by decide +kernel) (by decide +kernel)
theorem dX10_init_72 : decode cX10_init 72 = .ok (.putfield 38, 3) := by decide +kernel
theorem q_330 : (Cond.fieldLink "NightfallVillage" 38 "NightfallVillage" "history" "LNightfallVillage$History;") ∈ tw := tw_in (i := 330) (by decide +kernel) (by decide +kernel)
theorem dX10_init_75 : decode cX10_init 75 = .ok (.aload_n 0, 1) := by decide +kernel
theorem dX10_init_76 : decode cX10_init 76 = .ok (.new 42, 3) := by decide +kernel
theorem q_251 : (Cond.classLink "NightfallVillage" 42 "NightfallVillage$Sights") ∈ tw := tw_in (i := 251) (by decide +kernel) (by decide +kernel)
theorem q_252 : (Cond.instantiable "NightfallVillage$Sights" 4) ∈ tw := tw_in (i := 252) (by decide +kernel) (by decide +kernel)
theorem q_9 : (Cond.initialized "NightfallVillage$Sights") ∈ tw := tw_in (i := 9) (by decide +kernel) (by decide +kernel)
theorem dX10_init_79 : decode cX10_init 79 = .ok (.dup, 1) := by decide +kernel
theorem dX10_init_80 : decode cX10_init 80 = .ok (.invokespecial 44, 3) := by decide +kernel
theorem q_255 : (Cond.code yX8_init cX8_init 1 none) ∈ tw := tw_in (i := 255) (by decide +kernel) (by decide +kernel)
theorem q_253 : (Cond.methodLinkNest "NightfallVillage" 44 yX8_init "NightfallVillage") ∈ tw := tw_in (i := 253) (by decide +kernel) (by decide +kernel)
theorem q_254 : (Cond.instanceMethod yX8_init) ∈ tw := tw_in (i := 254) (by decide +kernel) (by decide +kernel)
theorem dX10_init_83 : decode cX10_init 83 = .ok (.putfield 45, 3) := by decide +kernel
theorem q_331 : (Cond.fieldLink "NightfallVillage" 45 "NightfallVillage" "sights" "LNightfallVillage$Sights;") ∈ tw := tw_in (i := 331) (by decide +kernel) (by decide +kernel)
theorem dX10_init_86 : decode cX10_init 86 = .ok (.aload_n 0, 1) := by decide +kernel
theorem dX10_init_87 : decode cX10_init 87 = .ok (.new 49, 3) := by decide +kernel
theorem q_271 : (Cond.classLink "NightfallVillage" 49 "NightfallVillage$Claims") ∈ tw := tw_in (i := 271) (by decide +kernel) (by decide +kernel)
theorem q_272 : (Cond.instantiable "NightfallVillage$Claims" 4) ∈ tw := tw_in (i := 272) (by decide +kernel) (by decide +kernel)
theorem q_10 : (Cond.initialized "NightfallVillage$Claims") ∈ tw := tw_in (i := 10) (by decide +kernel) (by decide +kernel)
theorem dX10_init_90 : decode cX10_init 90 = .ok (.dup, 1) := by decide +kernel
theorem dX10_init_91 : decode cX10_init 91 = .ok (.invokespecial 51, 3) := by decide +kernel
theorem q_275 : (Cond.code yX0_init cX0_init 1 none) ∈ tw := tw_in (i := 275) (by decide +kernel) (by decide +kernel)
theorem q_273 : (Cond.methodLinkNest "NightfallVillage" 51 yX0_init "NightfallVillage") ∈ tw := tw_in (i := 273) (by decide +kernel) (by decide +kernel)
theorem q_274 : (Cond.instanceMethod yX0_init) ∈ tw := tw_in (i := 274) (by decide +kernel) (by decide +kernel)
theorem dX10_init_94 : decode cX10_init 94 = .ok (.putfield 52, 3) := by decide +kernel
theorem q_332 : (Cond.fieldLink "NightfallVillage" 52 "NightfallVillage" "claims" "LNightfallVillage$Claims;") ∈ tw := tw_in (i := 332) (by decide +kernel) (by decide +kernel)
theorem dX10_init_97 : decode cX10_init 97 = .ok (.aload_n 0, 1) := by decide +kernel
theorem dX10_init_98 : decode cX10_init 98 = .ok (.new 56, 3) := by decide +kernel
theorem q_291 : (Cond.classLink "NightfallVillage" 56 "NightfallVillage$Worlds") ∈ tw := tw_in (i := 291) (by decide +kernel) (by decide +kernel)
theorem q_292 : (Cond.instantiable "NightfallVillage$Worlds" 9) ∈ tw := tw_in (i := 292) (by decide +kernel) (by decide +kernel)
theorem q_11 : (Cond.initialized "NightfallVillage$Worlds") ∈ tw := tw_in (i := 11) (by decide +kernel) (by decide +kernel)
theorem dX10_init_101 : decode cX10_init 101 = .ok (.dup, 1) := by decide +kernel
theorem dX10_init_102 : decode cX10_init 102 = .ok (.aload_n 0, 1) := by decide +kernel
theorem dX10_init_103 : decode cX10_init 103 = .ok (.getfield 10, 3) := by decide +kernel
theorem dX10_init_106 : decode cX10_init 106 = .ok (.aload_n 0, 1) := by decide +kernel
theorem dX10_init_107 : decode cX10_init 107 = .ok (.getfield 19, 3) := by decide +kernel
theorem dX10_init_110 : decode cX10_init 110 = .ok (.aload_n 0, 1) := by decide +kernel
theorem dX10_init_111 : decode cX10_init 111 = .ok (.getfield 28, 3) := by decide +kernel
theorem dX10_init_114 : decode cX10_init 114 = .ok (.getfield 58, 3) := by decide +kernel
theorem q_209 : (Cond.fieldLinkNest "NightfallVillage" 58 "NightfallVillage$Game" "folk" "LNightfallVillage$Folk;" "NightfallVillage") ∈ tw := tw_in (i := 209) (by decide +kernel) (by decide +kernel)
theorem dX10_init_117 : decode cX10_init 117 = .ok (.aload_n 0, 1) := by decide +kernel
theorem dX10_init_118 : decode cX10_init 118 = .ok (.getfield 45, 3) := by decide +kernel
theorem dX10_init_121 : decode cX10_init 121 = .ok (.invokespecial 62, 3) := by decide +kernel
theorem q_295 : (Cond.code yX9_init cX9_init 5 none) ∈ tw := tw_in (i := 295) (by decide +kernel) (by decide +kernel)
theorem q_293 : (Cond.methodLink "NightfallVillage" 62 yX9_init) ∈ tw := tw_in (i := 293) (by decide +kernel) (by decide +kernel)
theorem q_294 : (Cond.instanceMethod yX9_init) ∈ tw := tw_in (i := 294) (by decide +kernel) (by decide +kernel)
theorem dX10_init_124 : decode cX10_init 124 = .ok (.putfield 65, 3) := by decide +kernel
theorem q_333 : (Cond.fieldLink "NightfallVillage" 65 "NightfallVillage" "fitting" "LNightfallVillage$Worlds;") ∈ tw := tw_in (i := 333) (by decide +kernel) (by decide +kernel)
theorem dX10_init_127 : decode cX10_init 127 = .ok (.return_, 1) := by decide +kernel
set_option maxHeartbeats 4000000 in
set_option maxRecDepth 100000 in
theorem c_X_init (l : Launch) (hst : l.stackTraces = false) (tE : Nat) (adK adV : Nat → Nat) (dC : Nat → ClassId) (dI : Nat → Nat → Nat) (h0 : Nat) (sz : Nat) : Met l yX10_init (Cond.code yX10_init cX10_init 1 none :: tw) ({ frames := 3, cells := 70, slots := 4775, locals := 56 }) (va_Pc [.ref h0] (pre tE adK adV (dC, dI) [(h0, .inr (10, [.null, .null, .null, .null, .null, .null, .null, .null]))] [] sz)) (va_Qv (fun (_ : Unit) => True) (fun (_ : Unit) (t : State) => ∃ (r0 : Nat) (d0 : Nat) (g0 : Nat) (g1 : Nat) (y1 : Nat) (s1 : Nat) (l1 : Nat) (w1 : Nat) (a1 : Nat) (a2 : Nat) (a3 : Nat) (a4 : Nat) (a5 : Nat) (a6 : Nat) (a7 : Nat) (k1 : ClassId) (k2 : ClassId) (k3 : ClassId) (k4 : ClassId) (k5 : ClassId) (k6 : ClassId) (k7 : ClassId) (b1 : Nat) (b2 : Nat) (b3 : Nat) (f0 : Nat) (n0 : Nat) (y0 : Nat) (z1 : Nat) (z2 : Nat) (z3 : Nat) (z4 : Nat) (z5 : Nat), va_P (dC, dI) cls [(h0, .inr (10, [.ref r0, .ref d0, .ref g0, .ref g1, .ref y1, .ref s1, .ref l1, .ref w1])), (r0, .inr (7, [.ref a1, .ref a2, .ref a3, .ref a4, .ref a5, .ref a6, .ref a7, .int 0])), (a1, .inl (k1, 8, .inl (fun _ => 0))), (a2, .inl (k2, 8, .inl (fun _ => 0))), (a3, .inl (k3, 8, .inl (fun _ => 0))), (a4, .inl (k4, 8, .inl (fun _ => 0))), (a5, .inl (k5, 8, .inl (fun _ => 0))), (a6, .inl (k6, 8, .inl (fun _ => 0))), (a7, .inl (k7, 8, .inl (fun _ => 0))), (d0, .inr (2, [.ref b1, .ref b2, .ref b3, .int 0, .int (-1), .int (-1)])), (g0, .inr (4, [.ref f0, .ref n0, .ref y0, .int 0, .int 0, .int 0, .int 45])), (f0, .inr (3, [.ref r0, .ref d0, .ref z1, .ref z2, .ref z3, .ref z4, .ref z5, .int 0, .int 0]))] t.heap ∧ va_K (dC, dI) cls [(k1, .char), (k2, .char), (k3, .int), (k4, .boolean), (k5, .boolean), (k6, .boolean), (k7, .int)] t ∧ va_D (va_A [(h0, .inr (10, [.null, .null, .null, .null, .null, .null, .null, .null]))] sz) [(h0, .inr (10, [.ref r0, .ref d0, .ref g0, .ref g1, .ref y1, .ref s1, .ref l1, .ref w1])), (r0, .inr (7, [.ref a1, .ref a2, .ref a3, .ref a4, .ref a5, .ref a6, .ref a7, .int 0])), (a1, .inl (k1, 8, .inl (fun _ => 0))), (a2, .inl (k2, 8, .inl (fun _ => 0))), (a3, .inl (k3, 8, .inl (fun _ => 0))), (a4, .inl (k4, 8, .inl (fun _ => 0))), (a5, .inl (k5, 8, .inl (fun _ => 0))), (a6, .inl (k6, 8, .inl (fun _ => 0))), (a7, .inl (k7, 8, .inl (fun _ => 0))), (d0, .inr (2, [.ref b1, .ref b2, .ref b3, .int 0, .int (-1), .int (-1)])), (g0, .inr (4, [.ref f0, .ref n0, .ref y0, .int 0, .int 0, .int 0, .int 45])), (f0, .inr (3, [.ref r0, .ref d0, .ref z1, .ref z2, .ref z3, .ref z4, .ref z5, .int 0, .int 0]))]) (va_A [(h0, .inr (10, [.null, .null, .null, .null, .null, .null, .null, .null]))] sz)) 70 4775 (va_A [(h0, .inr (10, [.null, .null, .null, .null, .null, .null, .null, .null]))] sz) := by
  refine Met.ofW (cc := cX10_init) (maxL := 1) (ret := none) (by decide) rfl ?_
  intro p e s m args below meth c s₁ B hml hv
  obtain ⟨rfl, hsz, hP, hK, hD0, ham⟩ := hv
  have hx := B.exec
  have hb := B.bytes
  have hr := B.returns
  have hts := atoms_spec B.pre
  have hq : ∀ w ∈ tw, w.before _ s = true := fun w h => hts w (List.mem_cons_of_mem _ h)
  have hown : s.vm.findClass RX10 = some m.cls := findClass_of_methodNamed B.named
  have hlocks := B.notSynchronized
  have hin : meth.name = "<init>" := (name_of_methodNamed B.named B.method).1
  subst hsz
  have hD := hD0.self (sz := s.heap.size)
  generalize hAe : va_A [(h0, .inr (10, [.null, .null, .null, .null, .null, .null, .null, .null]))] s.heap.size = A at hD ham ⊢
  have hA : ∀ q : Nat, s.heap.size ≤ q → A q := fun q h => by rw [← hAe]; exact Or.inr h
  have hS : va_S A s.heap s.heap [] := va_S.rf
  have hP : va_P (dC, dI) cls [(h0, .inr (10, [.null, .null, .null, .null, .null, .null, .null, .null]))] s.heap := hP
  have hl := lv_entry ([.ref h0]) (n := 1) (Nat.le_of_ble_eq_true rfl)
  rw [lg_entry_eq]
  generalize (lg_sl ([.ref h0]) ++ List.replicate (1 - (lg_sl ([.ref h0])).length) Slot.unset).toArray = ls at hl ⊢
  have hl : lv_has ls 1 [(0, .ref h0)] := hl
  refine lv_aload_n hx hb dX10_init_0 rfl (lv_at hl 0 rfl) ?_
  refine W.objInit hx hb hown (hq _ q_44) (hq _ q_45) (hq _ q_46) rfl (by rw [hml]; exact hl.1) rfl dX10_init_1 (Nat.le_of_ble_eq_true rfl) (Nat.le_of_ble_eq_true rfl) ?_
  refine W.eq (g2 := F0 m 4 ls []) rfl ?_
  refine lv_aload_n hx hb dX10_init_4 rfl (lv_at hl 0 rfl) ?_
  refine va_new (ci := 7) (fs := [.null, .null, .null, .null, .null, .null, .null, .int 0]) (C := RX7) (T := TX7) (N := 8) hx hb hq i_X7 tyX7 tyX7_ok hown (hq _ q_47) (hq _ q_48) (hq _ q_2) hK hP hD hS hA rfl (fun j hj => by rcases (show j = 0 ∨ j = 1 ∨ j = 2 ∨ j = 3 ∨ j = 4 ∨ j = 5 ∨ j = 6 ∨ j = 7 by omega) with rfl | rfl | rfl | rfl | rfl | rfl | rfl | rfl <;> rfl) (Nat.le_of_ble_eq_true rfl) (Nat.le_of_ble_eq_true rfl) dX10_init_5 (fun a_1 H hP hD hS => ?_)
  have hP : va_P (dC, dI) cls [(h0, .inr (10, [.null, .null, .null, .null, .null, .null, .null, .null])), (a_1, .inr (7, [.null, .null, .null, .null, .null, .null, .null, .int 0]))] H := hP
  have hD : va_D A [(h0, .inr (10, [.null, .null, .null, .null, .null, .null, .null, .null])), (a_1, .inr (7, [.null, .null, .null, .null, .null, .null, .null, .int 0]))] := hD
  refine W.widen (k := 1) (n := 8) (Nat.le_of_ble_eq_true rfl) (Nat.le_of_ble_eq_true rfl) ?_
  refine lv_dup hx hb dX10_init_8 rfl ?_
  have hPc := hP.sub (ws' := [(a_1, .inr (7, [.null, .null, .null, .null, .null, .null, .null, .int 0]))]) [1] rfl
  have hKc := hK.sub (tys' := []) [] rfl
  have hDc := hD.sub (ws' := [(a_1, .inr (7, [.null, .null, .null, .null, .null, .null, .null, .int 0]))]) [1] (by decide) rfl
  have hFc := va_free (wc := [(a_1, .inr (7, [.null, .null, .null, .null, .null, .null, .null, .int 0]))]) hD hS hA [1] rfl
  refine va_callv (va_runIN (As := []) (rest := [.ref a_1, .ref h0]) ⟨hx, hb, hml, hown, hq⟩ (c_Roles_init l hst tE adK adV dC dI a_1 H.size) (tcIN 0 hq q_51 q_2 q_49 q_50 rfl rfl rfl (by decide +kernel) ⟨Nat.le_of_ble_eq_true rfl, Nat.le_of_ble_eq_true rfl⟩) (pre.S (pre.of hPc hDc hKc ham hS hFc)) rfl rfl hl.1 rfl (lv_room (Nat.le_of_ble_eq_true rfl)) dX10_init_9 ⟨Nat.le_of_ble_eq_true rfl, Nat.le_of_ble_eq_true rfl⟩) hS (fun q _ h => hFc q h) hFc (fun u t H1 locs ht hvm hw hB hz1 hk1 hS => ?_)
  obtain ⟨q1_3, q2_4, q3_5, q4_6, q5_7, q6_8, q7_9, k1_10, k2_11, k3_12, k4_13, k5_14, k6_15, k7_16, hP1, hK1, hD1⟩ := hB
  rw [ht] at hP1
  have hK1 := va_K.moved hvm.symm hK1
  obtain ⟨hP, hD⟩ := va_join (wr := [(h0, .inr (10, [.null, .null, .null, .null, .null, .null, .null, .null]))]) (w1 := [(a_1, .inr (7, [.ref q1_3, .ref q2_4, .ref q3_5, .ref q4_6, .ref q5_7, .ref q6_8, .ref q7_9, .int 0])), (q1_3, .inl (k1_10, 8, .inl (fun _ => 0))), (q2_4, .inl (k2_11, 8, .inl (fun _ => 0))), (q3_5, .inl (k3_12, 8, .inl (fun _ => 0))), (q4_6, .inl (k4_13, 8, .inl (fun _ => 0))), (q5_7, .inl (k5_14, 8, .inl (fun _ => 0))), (q6_8, .inl (k6_15, 8, .inl (fun _ => 0))), (q7_9, .inl (k7_16, 8, .inl (fun _ => 0)))]) (wc := [(a_1, .inr (7, [.null, .null, .null, .null, .null, .null, .null, .int 0]))]) hP hD [1] [0] rfl rfl (by decide) (by decide) hk1 hFc hP1 hD1
  have hK := (hK.sub (tys' := []) [] rfl).app hK1
  generalize H1 = H at hP hS ⊢
  have hP : va_P (dC, dI) cls [(h0, .inr (10, [.null, .null, .null, .null, .null, .null, .null, .null])), (a_1, .inr (7, [.ref q1_3, .ref q2_4, .ref q3_5, .ref q4_6, .ref q5_7, .ref q6_8, .ref q7_9, .int 0])), (q1_3, .inl (k1_10, 8, .inl (fun _ => 0))), (q2_4, .inl (k2_11, 8, .inl (fun _ => 0))), (q3_5, .inl (k3_12, 8, .inl (fun _ => 0))), (q4_6, .inl (k4_13, 8, .inl (fun _ => 0))), (q5_7, .inl (k5_14, 8, .inl (fun _ => 0))), (q6_8, .inl (k6_15, 8, .inl (fun _ => 0))), (q7_9, .inl (k7_16, 8, .inl (fun _ => 0)))] H := hP
  have hD : va_D A [(h0, .inr (10, [.null, .null, .null, .null, .null, .null, .null, .null])), (a_1, .inr (7, [.ref q1_3, .ref q2_4, .ref q3_5, .ref q4_6, .ref q5_7, .ref q6_8, .ref q7_9, .int 0])), (q1_3, .inl (k1_10, 8, .inl (fun _ => 0))), (q2_4, .inl (k2_11, 8, .inl (fun _ => 0))), (q3_5, .inl (k3_12, 8, .inl (fun _ => 0))), (q4_6, .inl (k4_13, 8, .inl (fun _ => 0))), (q5_7, .inl (k5_14, 8, .inl (fun _ => 0))), (q6_8, .inl (k6_15, 8, .inl (fun _ => 0))), (q7_9, .inl (k7_16, 8, .inl (fun _ => 0)))] := hD
  have hK : va_K (dC, dI) cls [(k1_10, .char), (k2_11, .char), (k3_12, .int), (k4_13, .boolean), (k5_14, .boolean), (k6_15, .boolean), (k7_16, .int)] s := hK
  refine W.widen (k := 8) (n := 64) (Nat.le_of_ble_eq_true rfl) (Nat.le_of_ble_eq_true rfl) ?_
  refine va_putF (D := (dC, dI)) (ci := 10) (v := .ref a_1) (ty := (.object "NightfallVillage$Roles")) (C := RX10) (T := TX10) (N := 8) hx hb hq i_X10 tyX10 tyX10_ok nmX10 hown hK hP hD hS 0 rfl rfl 0 (by decide) (hq _ q_326) (fun _ h9 => h9) rfl hin rfl (by decide +kernel) rfl rfl (Nat.le_of_ble_eq_true rfl) dX10_init_12 (fun H locs hP hD hS => ?_)
  have hP : va_P (dC, dI) cls [(h0, .inr (10, [.ref a_1, .null, .null, .null, .null, .null, .null, .null])), (a_1, .inr (7, [.ref q1_3, .ref q2_4, .ref q3_5, .ref q4_6, .ref q5_7, .ref q6_8, .ref q7_9, .int 0])), (q1_3, .inl (k1_10, 8, .inl (fun _ => 0))), (q2_4, .inl (k2_11, 8, .inl (fun _ => 0))), (q3_5, .inl (k3_12, 8, .inl (fun _ => 0))), (q4_6, .inl (k4_13, 8, .inl (fun _ => 0))), (q5_7, .inl (k5_14, 8, .inl (fun _ => 0))), (q6_8, .inl (k6_15, 8, .inl (fun _ => 0))), (q7_9, .inl (k7_16, 8, .inl (fun _ => 0)))] H := hP
  have hD : va_D A [(h0, .inr (10, [.ref a_1, .null, .null, .null, .null, .null, .null, .null])), (a_1, .inr (7, [.ref q1_3, .ref q2_4, .ref q3_5, .ref q4_6, .ref q5_7, .ref q6_8, .ref q7_9, .int 0])), (q1_3, .inl (k1_10, 8, .inl (fun _ => 0))), (q2_4, .inl (k2_11, 8, .inl (fun _ => 0))), (q3_5, .inl (k3_12, 8, .inl (fun _ => 0))), (q4_6, .inl (k4_13, 8, .inl (fun _ => 0))), (q5_7, .inl (k5_14, 8, .inl (fun _ => 0))), (q6_8, .inl (k6_15, 8, .inl (fun _ => 0))), (q7_9, .inl (k7_16, 8, .inl (fun _ => 0)))] := hD
  refine lv_aload_n hx hb dX10_init_15 rfl (lv_at hl 0 rfl) ?_
  refine va_new (ci := 2) (fs := [.null, .null, .null, .int 0, .int 0, .int 0]) (C := RX2) (T := TX2) (N := 6) hx hb hq i_X2 tyX2 tyX2_ok hown (hq _ q_83) (hq _ q_84) (hq _ q_3) hK hP hD hS hA rfl (fun j hj => by rcases (show j = 0 ∨ j = 1 ∨ j = 2 ∨ j = 3 ∨ j = 4 ∨ j = 5 by omega) with rfl | rfl | rfl | rfl | rfl | rfl <;> rfl) (Nat.le_of_ble_eq_true rfl) (Nat.le_of_ble_eq_true rfl) dX10_init_16 (fun a_17 H hP hD hS => ?_)
  have hP : va_P (dC, dI) cls [(h0, .inr (10, [.ref a_1, .null, .null, .null, .null, .null, .null, .null])), (a_1, .inr (7, [.ref q1_3, .ref q2_4, .ref q3_5, .ref q4_6, .ref q5_7, .ref q6_8, .ref q7_9, .int 0])), (q1_3, .inl (k1_10, 8, .inl (fun _ => 0))), (q2_4, .inl (k2_11, 8, .inl (fun _ => 0))), (q3_5, .inl (k3_12, 8, .inl (fun _ => 0))), (q4_6, .inl (k4_13, 8, .inl (fun _ => 0))), (q5_7, .inl (k5_14, 8, .inl (fun _ => 0))), (q6_8, .inl (k6_15, 8, .inl (fun _ => 0))), (q7_9, .inl (k7_16, 8, .inl (fun _ => 0))), (a_17, .inr (2, [.null, .null, .null, .int 0, .int 0, .int 0]))] H := hP
  have hD : va_D A [(h0, .inr (10, [.ref a_1, .null, .null, .null, .null, .null, .null, .null])), (a_1, .inr (7, [.ref q1_3, .ref q2_4, .ref q3_5, .ref q4_6, .ref q5_7, .ref q6_8, .ref q7_9, .int 0])), (q1_3, .inl (k1_10, 8, .inl (fun _ => 0))), (q2_4, .inl (k2_11, 8, .inl (fun _ => 0))), (q3_5, .inl (k3_12, 8, .inl (fun _ => 0))), (q4_6, .inl (k4_13, 8, .inl (fun _ => 0))), (q5_7, .inl (k5_14, 8, .inl (fun _ => 0))), (q6_8, .inl (k6_15, 8, .inl (fun _ => 0))), (q7_9, .inl (k7_16, 8, .inl (fun _ => 0))), (a_17, .inr (2, [.null, .null, .null, .int 0, .int 0, .int 0]))] := hD
  refine W.widen (k := 9) (n := 70) (Nat.le_of_ble_eq_true rfl) (Nat.le_of_ble_eq_true rfl) ?_
  refine lv_dup hx hb dX10_init_19 rfl ?_
  have hPc := hP.sub (ws' := [(a_17, .inr (2, [.null, .null, .null, .int 0, .int 0, .int 0]))]) [9] rfl
  have hKc := hK.sub (tys' := []) [] rfl
  have hDc := hD.sub (ws' := [(a_17, .inr (2, [.null, .null, .null, .int 0, .int 0, .int 0]))]) [9] (by decide) rfl
  have hFc := va_free (wc := [(a_17, .inr (2, [.null, .null, .null, .int 0, .int 0, .int 0]))]) hD hS hA [9] rfl
  refine va_callv (va_runIN (As := []) (rest := [.ref a_17, .ref h0]) ⟨hx, hb, hml, hown, hq⟩ (c_Deal_init l hst tE adK adV dC dI a_17 H.size) (tcIN 0 hq q_87 q_3 q_85 q_86 rfl rfl rfl (by decide +kernel) ⟨Nat.le_of_ble_eq_true rfl, Nat.le_of_ble_eq_true rfl⟩) (pre.S (pre.of hPc hDc hKc ham hS hFc)) rfl rfl hl.1 rfl (lv_room (Nat.le_of_ble_eq_true rfl)) dX10_init_20 ⟨Nat.le_of_ble_eq_true rfl, Nat.le_of_ble_eq_true rfl⟩) hS (fun q _ h => hFc q h) hFc (fun u t H1 locs ht hvm hw hB hz1 hk1 hS => ?_)
  obtain ⟨q1_19, q2_20, q3_21, hP1, hK1, hD1⟩ := hB
  rw [ht] at hP1
  have hK1 := va_K.moved hvm.symm hK1
  obtain ⟨hP, hD⟩ := va_join (wr := [(h0, .inr (10, [.ref a_1, .null, .null, .null, .null, .null, .null, .null])), (a_1, .inr (7, [.ref q1_3, .ref q2_4, .ref q3_5, .ref q4_6, .ref q5_7, .ref q6_8, .ref q7_9, .int 0])), (q1_3, .inl (k1_10, 8, .inl (fun _ => 0))), (q2_4, .inl (k2_11, 8, .inl (fun _ => 0))), (q3_5, .inl (k3_12, 8, .inl (fun _ => 0))), (q4_6, .inl (k4_13, 8, .inl (fun _ => 0))), (q5_7, .inl (k5_14, 8, .inl (fun _ => 0))), (q6_8, .inl (k6_15, 8, .inl (fun _ => 0))), (q7_9, .inl (k7_16, 8, .inl (fun _ => 0)))]) (w1 := [(a_17, .inr (2, [.ref q1_19, .ref q2_20, .ref q3_21, .int 0, .int (-1), .int (-1)]))]) (wc := [(a_17, .inr (2, [.null, .null, .null, .int 0, .int 0, .int 0]))]) hP hD [9] [0, 1, 2, 3, 4, 5, 6, 7, 8] rfl rfl (by decide) (by decide) hk1 hFc hP1 hD1
  have hK := (hK.sub (tys' := [(k1_10, .char), (k2_11, .char), (k3_12, .int), (k4_13, .boolean), (k5_14, .boolean), (k6_15, .boolean), (k7_16, .int)]) [0, 1, 2, 3, 4, 5, 6] rfl).app hK1
  generalize H1 = H at hP hS ⊢
  have hP : va_P (dC, dI) cls [(h0, .inr (10, [.ref a_1, .null, .null, .null, .null, .null, .null, .null])), (a_1, .inr (7, [.ref q1_3, .ref q2_4, .ref q3_5, .ref q4_6, .ref q5_7, .ref q6_8, .ref q7_9, .int 0])), (q1_3, .inl (k1_10, 8, .inl (fun _ => 0))), (q2_4, .inl (k2_11, 8, .inl (fun _ => 0))), (q3_5, .inl (k3_12, 8, .inl (fun _ => 0))), (q4_6, .inl (k4_13, 8, .inl (fun _ => 0))), (q5_7, .inl (k5_14, 8, .inl (fun _ => 0))), (q6_8, .inl (k6_15, 8, .inl (fun _ => 0))), (q7_9, .inl (k7_16, 8, .inl (fun _ => 0))), (a_17, .inr (2, [.ref q1_19, .ref q2_20, .ref q3_21, .int 0, .int (-1), .int (-1)]))] H := hP
  have hD : va_D A [(h0, .inr (10, [.ref a_1, .null, .null, .null, .null, .null, .null, .null])), (a_1, .inr (7, [.ref q1_3, .ref q2_4, .ref q3_5, .ref q4_6, .ref q5_7, .ref q6_8, .ref q7_9, .int 0])), (q1_3, .inl (k1_10, 8, .inl (fun _ => 0))), (q2_4, .inl (k2_11, 8, .inl (fun _ => 0))), (q3_5, .inl (k3_12, 8, .inl (fun _ => 0))), (q4_6, .inl (k4_13, 8, .inl (fun _ => 0))), (q5_7, .inl (k5_14, 8, .inl (fun _ => 0))), (q6_8, .inl (k6_15, 8, .inl (fun _ => 0))), (q7_9, .inl (k7_16, 8, .inl (fun _ => 0))), (a_17, .inr (2, [.ref q1_19, .ref q2_20, .ref q3_21, .int 0, .int (-1), .int (-1)]))] := hD
  have hK : va_K (dC, dI) cls [(k1_10, .char), (k2_11, .char), (k3_12, .int), (k4_13, .boolean), (k5_14, .boolean), (k6_15, .boolean), (k7_16, .int)] s := hK
  refine W.widen (k := 12) (n := 91) (Nat.le_of_ble_eq_true rfl) (Nat.le_of_ble_eq_true rfl) ?_
  refine va_putF (D := (dC, dI)) (ci := 10) (v := .ref a_17) (ty := (.object "NightfallVillage$Deal")) (C := RX10) (T := TX10) (N := 8) hx hb hq i_X10 tyX10 tyX10_ok nmX10 hown hK hP hD hS 0 rfl rfl 1 (by decide) (hq _ q_327) (fun _ h9 => h9) rfl hin rfl (by decide +kernel) rfl rfl (Nat.le_of_ble_eq_true rfl) dX10_init_23 (fun H locs hP hD hS => ?_)
  have hP : va_P (dC, dI) cls [(h0, .inr (10, [.ref a_1, .ref a_17, .null, .null, .null, .null, .null, .null])), (a_1, .inr (7, [.ref q1_3, .ref q2_4, .ref q3_5, .ref q4_6, .ref q5_7, .ref q6_8, .ref q7_9, .int 0])), (q1_3, .inl (k1_10, 8, .inl (fun _ => 0))), (q2_4, .inl (k2_11, 8, .inl (fun _ => 0))), (q3_5, .inl (k3_12, 8, .inl (fun _ => 0))), (q4_6, .inl (k4_13, 8, .inl (fun _ => 0))), (q5_7, .inl (k5_14, 8, .inl (fun _ => 0))), (q6_8, .inl (k6_15, 8, .inl (fun _ => 0))), (q7_9, .inl (k7_16, 8, .inl (fun _ => 0))), (a_17, .inr (2, [.ref q1_19, .ref q2_20, .ref q3_21, .int 0, .int (-1), .int (-1)]))] H := hP
  have hD : va_D A [(h0, .inr (10, [.ref a_1, .ref a_17, .null, .null, .null, .null, .null, .null])), (a_1, .inr (7, [.ref q1_3, .ref q2_4, .ref q3_5, .ref q4_6, .ref q5_7, .ref q6_8, .ref q7_9, .int 0])), (q1_3, .inl (k1_10, 8, .inl (fun _ => 0))), (q2_4, .inl (k2_11, 8, .inl (fun _ => 0))), (q3_5, .inl (k3_12, 8, .inl (fun _ => 0))), (q4_6, .inl (k4_13, 8, .inl (fun _ => 0))), (q5_7, .inl (k5_14, 8, .inl (fun _ => 0))), (q6_8, .inl (k6_15, 8, .inl (fun _ => 0))), (q7_9, .inl (k7_16, 8, .inl (fun _ => 0))), (a_17, .inr (2, [.ref q1_19, .ref q2_20, .ref q3_21, .int 0, .int (-1), .int (-1)]))] := hD
  refine lv_aload_n hx hb dX10_init_26 rfl (lv_at hl 0 rfl) ?_
  refine va_new (ci := 4) (fs := [.null, .null, .null, .int 0, .int 0, .int 0, .int 0]) (C := RX4) (T := TX4) (N := 7) hx hb hq i_X4 tyX4 tyX4_ok hown (hq _ q_111) (hq _ q_112) (hq _ q_4) hK hP hD hS hA rfl (fun j hj => by rcases (show j = 0 ∨ j = 1 ∨ j = 2 ∨ j = 3 ∨ j = 4 ∨ j = 5 ∨ j = 6 by omega) with rfl | rfl | rfl | rfl | rfl | rfl | rfl <;> rfl) (Nat.le_of_ble_eq_true rfl) (Nat.le_of_ble_eq_true rfl) dX10_init_27 (fun a_22 H hP hD hS => ?_)
  have hP : va_P (dC, dI) cls [(h0, .inr (10, [.ref a_1, .ref a_17, .null, .null, .null, .null, .null, .null])), (a_1, .inr (7, [.ref q1_3, .ref q2_4, .ref q3_5, .ref q4_6, .ref q5_7, .ref q6_8, .ref q7_9, .int 0])), (q1_3, .inl (k1_10, 8, .inl (fun _ => 0))), (q2_4, .inl (k2_11, 8, .inl (fun _ => 0))), (q3_5, .inl (k3_12, 8, .inl (fun _ => 0))), (q4_6, .inl (k4_13, 8, .inl (fun _ => 0))), (q5_7, .inl (k5_14, 8, .inl (fun _ => 0))), (q6_8, .inl (k6_15, 8, .inl (fun _ => 0))), (q7_9, .inl (k7_16, 8, .inl (fun _ => 0))), (a_17, .inr (2, [.ref q1_19, .ref q2_20, .ref q3_21, .int 0, .int (-1), .int (-1)])), (a_22, .inr (4, [.null, .null, .null, .int 0, .int 0, .int 0, .int 0]))] H := hP
  have hD : va_D A [(h0, .inr (10, [.ref a_1, .ref a_17, .null, .null, .null, .null, .null, .null])), (a_1, .inr (7, [.ref q1_3, .ref q2_4, .ref q3_5, .ref q4_6, .ref q5_7, .ref q6_8, .ref q7_9, .int 0])), (q1_3, .inl (k1_10, 8, .inl (fun _ => 0))), (q2_4, .inl (k2_11, 8, .inl (fun _ => 0))), (q3_5, .inl (k3_12, 8, .inl (fun _ => 0))), (q4_6, .inl (k4_13, 8, .inl (fun _ => 0))), (q5_7, .inl (k5_14, 8, .inl (fun _ => 0))), (q6_8, .inl (k6_15, 8, .inl (fun _ => 0))), (q7_9, .inl (k7_16, 8, .inl (fun _ => 0))), (a_17, .inr (2, [.ref q1_19, .ref q2_20, .ref q3_21, .int 0, .int (-1), .int (-1)])), (a_22, .inr (4, [.null, .null, .null, .int 0, .int 0, .int 0, .int 0]))] := hD
  refine W.widen (k := 13) (n := 98) (Nat.le_of_ble_eq_true rfl) (Nat.le_of_ble_eq_true rfl) ?_
  refine lv_dup hx hb dX10_init_30 rfl ?_
  refine lv_aload_n hx hb dX10_init_31 rfl (lv_at hl 0 rfl) ?_
  refine va_get (D := (dC, dI)) (ci := 10) (v := .ref a_1) (C := RX10) (T := TX10) (N := 8) hx hb hq i_X10 hown hK hP 0 rfl rfl 0 (by decide) (hq _ q_326) (fun _ h9 => h9) rfl dX10_init_32 ?_
  refine lv_aload_n hx hb dX10_init_35 rfl (lv_at hl 0 rfl) ?_
  refine va_get (D := (dC, dI)) (ci := 10) (v := .ref a_17) (C := RX10) (T := TX10) (N := 8) hx hb hq i_X10 hown hK hP 0 rfl rfl 1 (by decide) (hq _ q_327) (fun _ h9 => h9) rfl dX10_init_36 ?_
  have hPc := hP.sub (ws' := [(a_22, .inr (4, [.null, .null, .null, .int 0, .int 0, .int 0, .int 0]))]) [10] rfl
  have hKc := hK.sub (tys' := []) [] rfl
  have hDc := hD.sub (ws' := [(a_22, .inr (4, [.null, .null, .null, .int 0, .int 0, .int 0, .int 0]))]) [10] (by decide) rfl
  have hFc := va_free (wc := [(a_22, .inr (4, [.null, .null, .null, .int 0, .int 0, .int 0, .int 0]))]) hD hS hA [10] rfl
  refine va_callv (va_runI (As := [.ref a_1, .ref a_17]) (rest := [.ref a_22, .ref h0]) ⟨hx, hb, hml, hown, hq⟩ (c_Game_init l hst tE adK adV dC dI a_22 a_1 a_17 H.size) (tcI 2 hq q_115 q_4 q_113 q_114 rfl rfl rfl (by decide +kernel) ⟨Nat.le_of_ble_eq_true rfl, Nat.le_of_ble_eq_true rfl⟩) (pre.S (pre.of hPc hDc hKc ham hS hFc)) rfl rfl hl.1 rfl (lv_room (Nat.le_of_ble_eq_true rfl)) dX10_init_39 ⟨Nat.le_of_ble_eq_true rfl, Nat.le_of_ble_eq_true rfl⟩) hS (fun q _ h => hFc q h) hFc (fun u t H1 locs ht hvm hw hB hz1 hk1 hS => ?_)
  obtain ⟨f0_24, n0_25, y0_26, q1_27, q2_28, q3_29, q4_30, q5_31, hP1, hK1, hD1⟩ := hB
  rw [ht] at hP1
  have hK1 := va_K.moved hvm.symm hK1
  obtain ⟨hP, hD⟩ := va_join (wr := [(h0, .inr (10, [.ref a_1, .ref a_17, .null, .null, .null, .null, .null, .null])), (a_1, .inr (7, [.ref q1_3, .ref q2_4, .ref q3_5, .ref q4_6, .ref q5_7, .ref q6_8, .ref q7_9, .int 0])), (q1_3, .inl (k1_10, 8, .inl (fun _ => 0))), (q2_4, .inl (k2_11, 8, .inl (fun _ => 0))), (q3_5, .inl (k3_12, 8, .inl (fun _ => 0))), (q4_6, .inl (k4_13, 8, .inl (fun _ => 0))), (q5_7, .inl (k5_14, 8, .inl (fun _ => 0))), (q6_8, .inl (k6_15, 8, .inl (fun _ => 0))), (q7_9, .inl (k7_16, 8, .inl (fun _ => 0))), (a_17, .inr (2, [.ref q1_19, .ref q2_20, .ref q3_21, .int 0, .int (-1), .int (-1)]))]) (w1 := [(a_22, .inr (4, [.ref f0_24, .ref n0_25, .ref y0_26, .int 0, .int 0, .int 0, .int 45])), (f0_24, .inr (3, [.ref a_1, .ref a_17, .ref q1_27, .ref q2_28, .ref q3_29, .ref q4_30, .ref q5_31, .int 0, .int 0]))]) (wc := [(a_22, .inr (4, [.null, .null, .null, .int 0, .int 0, .int 0, .int 0]))]) hP hD [10] [0, 1, 2, 3, 4, 5, 6, 7, 8, 9] rfl rfl (by decide) (by decide) hk1 hFc hP1 hD1
  have hK := (hK.sub (tys' := [(k1_10, .char), (k2_11, .char), (k3_12, .int), (k4_13, .boolean), (k5_14, .boolean), (k6_15, .boolean), (k7_16, .int)]) [0, 1, 2, 3, 4, 5, 6] rfl).app hK1
  generalize H1 = H at hP hS ⊢
  have hP : va_P (dC, dI) cls [(h0, .inr (10, [.ref a_1, .ref a_17, .null, .null, .null, .null, .null, .null])), (a_1, .inr (7, [.ref q1_3, .ref q2_4, .ref q3_5, .ref q4_6, .ref q5_7, .ref q6_8, .ref q7_9, .int 0])), (q1_3, .inl (k1_10, 8, .inl (fun _ => 0))), (q2_4, .inl (k2_11, 8, .inl (fun _ => 0))), (q3_5, .inl (k3_12, 8, .inl (fun _ => 0))), (q4_6, .inl (k4_13, 8, .inl (fun _ => 0))), (q5_7, .inl (k5_14, 8, .inl (fun _ => 0))), (q6_8, .inl (k6_15, 8, .inl (fun _ => 0))), (q7_9, .inl (k7_16, 8, .inl (fun _ => 0))), (a_17, .inr (2, [.ref q1_19, .ref q2_20, .ref q3_21, .int 0, .int (-1), .int (-1)])), (a_22, .inr (4, [.ref f0_24, .ref n0_25, .ref y0_26, .int 0, .int 0, .int 0, .int 45])), (f0_24, .inr (3, [.ref a_1, .ref a_17, .ref q1_27, .ref q2_28, .ref q3_29, .ref q4_30, .ref q5_31, .int 0, .int 0]))] H := hP
  have hD : va_D A [(h0, .inr (10, [.ref a_1, .ref a_17, .null, .null, .null, .null, .null, .null])), (a_1, .inr (7, [.ref q1_3, .ref q2_4, .ref q3_5, .ref q4_6, .ref q5_7, .ref q6_8, .ref q7_9, .int 0])), (q1_3, .inl (k1_10, 8, .inl (fun _ => 0))), (q2_4, .inl (k2_11, 8, .inl (fun _ => 0))), (q3_5, .inl (k3_12, 8, .inl (fun _ => 0))), (q4_6, .inl (k4_13, 8, .inl (fun _ => 0))), (q5_7, .inl (k5_14, 8, .inl (fun _ => 0))), (q6_8, .inl (k6_15, 8, .inl (fun _ => 0))), (q7_9, .inl (k7_16, 8, .inl (fun _ => 0))), (a_17, .inr (2, [.ref q1_19, .ref q2_20, .ref q3_21, .int 0, .int (-1), .int (-1)])), (a_22, .inr (4, [.ref f0_24, .ref n0_25, .ref y0_26, .int 0, .int 0, .int 0, .int 45])), (f0_24, .inr (3, [.ref a_1, .ref a_17, .ref q1_27, .ref q2_28, .ref q3_29, .ref q4_30, .ref q5_31, .int 0, .int 0]))] := hD
  have hK : va_K (dC, dI) cls [(k1_10, .char), (k2_11, .char), (k3_12, .int), (k4_13, .boolean), (k5_14, .boolean), (k6_15, .boolean), (k7_16, .int)] s := hK
  refine W.widen (k := 34) (n := 246) (Nat.le_of_ble_eq_true rfl) (Nat.le_of_ble_eq_true rfl) ?_
  refine va_putF (D := (dC, dI)) (ci := 10) (v := .ref a_22) (ty := (.object "NightfallVillage$Game")) (C := RX10) (T := TX10) (N := 8) hx hb hq i_X10 tyX10 tyX10_ok nmX10 hown hK hP hD hS 0 rfl rfl 2 (by decide) (hq _ q_328) (fun _ h9 => h9) rfl hin rfl (by decide +kernel) rfl rfl (Nat.le_of_ble_eq_true rfl) dX10_init_42 (fun H locs hP hD hS => ?_)
  have hP : va_P (dC, dI) cls [(h0, .inr (10, [.ref a_1, .ref a_17, .ref a_22, .null, .null, .null, .null, .null])), (a_1, .inr (7, [.ref q1_3, .ref q2_4, .ref q3_5, .ref q4_6, .ref q5_7, .ref q6_8, .ref q7_9, .int 0])), (q1_3, .inl (k1_10, 8, .inl (fun _ => 0))), (q2_4, .inl (k2_11, 8, .inl (fun _ => 0))), (q3_5, .inl (k3_12, 8, .inl (fun _ => 0))), (q4_6, .inl (k4_13, 8, .inl (fun _ => 0))), (q5_7, .inl (k5_14, 8, .inl (fun _ => 0))), (q6_8, .inl (k6_15, 8, .inl (fun _ => 0))), (q7_9, .inl (k7_16, 8, .inl (fun _ => 0))), (a_17, .inr (2, [.ref q1_19, .ref q2_20, .ref q3_21, .int 0, .int (-1), .int (-1)])), (a_22, .inr (4, [.ref f0_24, .ref n0_25, .ref y0_26, .int 0, .int 0, .int 0, .int 45])), (f0_24, .inr (3, [.ref a_1, .ref a_17, .ref q1_27, .ref q2_28, .ref q3_29, .ref q4_30, .ref q5_31, .int 0, .int 0]))] H := hP
  have hD : va_D A [(h0, .inr (10, [.ref a_1, .ref a_17, .ref a_22, .null, .null, .null, .null, .null])), (a_1, .inr (7, [.ref q1_3, .ref q2_4, .ref q3_5, .ref q4_6, .ref q5_7, .ref q6_8, .ref q7_9, .int 0])), (q1_3, .inl (k1_10, 8, .inl (fun _ => 0))), (q2_4, .inl (k2_11, 8, .inl (fun _ => 0))), (q3_5, .inl (k3_12, 8, .inl (fun _ => 0))), (q4_6, .inl (k4_13, 8, .inl (fun _ => 0))), (q5_7, .inl (k5_14, 8, .inl (fun _ => 0))), (q6_8, .inl (k6_15, 8, .inl (fun _ => 0))), (q7_9, .inl (k7_16, 8, .inl (fun _ => 0))), (a_17, .inr (2, [.ref q1_19, .ref q2_20, .ref q3_21, .int 0, .int (-1), .int (-1)])), (a_22, .inr (4, [.ref f0_24, .ref n0_25, .ref y0_26, .int 0, .int 0, .int 0, .int 45])), (f0_24, .inr (3, [.ref a_1, .ref a_17, .ref q1_27, .ref q2_28, .ref q3_29, .ref q4_30, .ref q5_31, .int 0, .int 0]))] := hD
  refine lv_aload_n hx hb dX10_init_45 rfl (lv_at hl 0 rfl) ?_
  refine va_new (ci := 4) (fs := [.null, .null, .null, .int 0, .int 0, .int 0, .int 0]) (C := RX4) (T := TX4) (N := 7) hx hb hq i_X4 tyX4 tyX4_ok hown (hq _ q_111) (hq _ q_112) (hq _ q_4) hK hP hD hS hA rfl (fun j hj => by rcases (show j = 0 ∨ j = 1 ∨ j = 2 ∨ j = 3 ∨ j = 4 ∨ j = 5 ∨ j = 6 by omega) with rfl | rfl | rfl | rfl | rfl | rfl | rfl <;> rfl) (Nat.le_of_ble_eq_true rfl) (Nat.le_of_ble_eq_true rfl) dX10_init_46 (fun a_32 H hP hD hS => ?_)
  have hP : va_P (dC, dI) cls [(h0, .inr (10, [.ref a_1, .ref a_17, .ref a_22, .null, .null, .null, .null, .null])), (a_1, .inr (7, [.ref q1_3, .ref q2_4, .ref q3_5, .ref q4_6, .ref q5_7, .ref q6_8, .ref q7_9, .int 0])), (q1_3, .inl (k1_10, 8, .inl (fun _ => 0))), (q2_4, .inl (k2_11, 8, .inl (fun _ => 0))), (q3_5, .inl (k3_12, 8, .inl (fun _ => 0))), (q4_6, .inl (k4_13, 8, .inl (fun _ => 0))), (q5_7, .inl (k5_14, 8, .inl (fun _ => 0))), (q6_8, .inl (k6_15, 8, .inl (fun _ => 0))), (q7_9, .inl (k7_16, 8, .inl (fun _ => 0))), (a_17, .inr (2, [.ref q1_19, .ref q2_20, .ref q3_21, .int 0, .int (-1), .int (-1)])), (a_22, .inr (4, [.ref f0_24, .ref n0_25, .ref y0_26, .int 0, .int 0, .int 0, .int 45])), (f0_24, .inr (3, [.ref a_1, .ref a_17, .ref q1_27, .ref q2_28, .ref q3_29, .ref q4_30, .ref q5_31, .int 0, .int 0])), (a_32, .inr (4, [.null, .null, .null, .int 0, .int 0, .int 0, .int 0]))] H := hP
  have hD : va_D A [(h0, .inr (10, [.ref a_1, .ref a_17, .ref a_22, .null, .null, .null, .null, .null])), (a_1, .inr (7, [.ref q1_3, .ref q2_4, .ref q3_5, .ref q4_6, .ref q5_7, .ref q6_8, .ref q7_9, .int 0])), (q1_3, .inl (k1_10, 8, .inl (fun _ => 0))), (q2_4, .inl (k2_11, 8, .inl (fun _ => 0))), (q3_5, .inl (k3_12, 8, .inl (fun _ => 0))), (q4_6, .inl (k4_13, 8, .inl (fun _ => 0))), (q5_7, .inl (k5_14, 8, .inl (fun _ => 0))), (q6_8, .inl (k6_15, 8, .inl (fun _ => 0))), (q7_9, .inl (k7_16, 8, .inl (fun _ => 0))), (a_17, .inr (2, [.ref q1_19, .ref q2_20, .ref q3_21, .int 0, .int (-1), .int (-1)])), (a_22, .inr (4, [.ref f0_24, .ref n0_25, .ref y0_26, .int 0, .int 0, .int 0, .int 45])), (f0_24, .inr (3, [.ref a_1, .ref a_17, .ref q1_27, .ref q2_28, .ref q3_29, .ref q4_30, .ref q5_31, .int 0, .int 0])), (a_32, .inr (4, [.null, .null, .null, .int 0, .int 0, .int 0, .int 0]))] := hD
  refine W.widen (k := 35) (n := 253) (Nat.le_of_ble_eq_true rfl) (Nat.le_of_ble_eq_true rfl) ?_
  refine lv_dup hx hb dX10_init_49 rfl ?_
  refine lv_aload_n hx hb dX10_init_50 rfl (lv_at hl 0 rfl) ?_
  refine va_get (D := (dC, dI)) (ci := 10) (v := .ref a_1) (C := RX10) (T := TX10) (N := 8) hx hb hq i_X10 hown hK hP 0 rfl rfl 0 (by decide) (hq _ q_326) (fun _ h9 => h9) rfl dX10_init_51 ?_
  refine lv_aload_n hx hb dX10_init_54 rfl (lv_at hl 0 rfl) ?_
  refine va_get (D := (dC, dI)) (ci := 10) (v := .ref a_17) (C := RX10) (T := TX10) (N := 8) hx hb hq i_X10 hown hK hP 0 rfl rfl 1 (by decide) (hq _ q_327) (fun _ h9 => h9) rfl dX10_init_55 ?_
  have hPc := hP.sub (ws' := [(a_32, .inr (4, [.null, .null, .null, .int 0, .int 0, .int 0, .int 0]))]) [12] rfl
  have hKc := hK.sub (tys' := []) [] rfl
  have hDc := hD.sub (ws' := [(a_32, .inr (4, [.null, .null, .null, .int 0, .int 0, .int 0, .int 0]))]) [12] (by decide) rfl
  have hFc := va_free (wc := [(a_32, .inr (4, [.null, .null, .null, .int 0, .int 0, .int 0, .int 0]))]) hD hS hA [12] rfl
  refine va_callv (va_runI (As := [.ref a_1, .ref a_17]) (rest := [.ref a_32, .ref h0]) ⟨hx, hb, hml, hown, hq⟩ (c_Game_init l hst tE adK adV dC dI a_32 a_1 a_17 H.size) (tcI 2 hq q_115 q_4 q_113 q_114 rfl rfl rfl (by decide +kernel) ⟨Nat.le_of_ble_eq_true rfl, Nat.le_of_ble_eq_true rfl⟩) (pre.S (pre.of hPc hDc hKc ham hS hFc)) rfl rfl hl.1 rfl (lv_room (Nat.le_of_ble_eq_true rfl)) dX10_init_58 ⟨Nat.le_of_ble_eq_true rfl, Nat.le_of_ble_eq_true rfl⟩) hS (fun q _ h => hFc q h) hFc (fun u t H1 locs ht hvm hw hB hz1 hk1 hS => ?_)
  obtain ⟨f0_34, n0_35, y0_36, q1_37, q2_38, q3_39, q4_40, q5_41, hP1, hK1, hD1⟩ := hB
  rw [ht] at hP1
  have hK1 := va_K.moved hvm.symm hK1
  obtain ⟨hP, hD⟩ := va_join (wr := [(h0, .inr (10, [.ref a_1, .ref a_17, .ref a_22, .null, .null, .null, .null, .null])), (a_1, .inr (7, [.ref q1_3, .ref q2_4, .ref q3_5, .ref q4_6, .ref q5_7, .ref q6_8, .ref q7_9, .int 0])), (q1_3, .inl (k1_10, 8, .inl (fun _ => 0))), (q2_4, .inl (k2_11, 8, .inl (fun _ => 0))), (q3_5, .inl (k3_12, 8, .inl (fun _ => 0))), (q4_6, .inl (k4_13, 8, .inl (fun _ => 0))), (q5_7, .inl (k5_14, 8, .inl (fun _ => 0))), (q6_8, .inl (k6_15, 8, .inl (fun _ => 0))), (q7_9, .inl (k7_16, 8, .inl (fun _ => 0))), (a_17, .inr (2, [.ref q1_19, .ref q2_20, .ref q3_21, .int 0, .int (-1), .int (-1)])), (a_22, .inr (4, [.ref f0_24, .ref n0_25, .ref y0_26, .int 0, .int 0, .int 0, .int 45])), (f0_24, .inr (3, [.ref a_1, .ref a_17, .ref q1_27, .ref q2_28, .ref q3_29, .ref q4_30, .ref q5_31, .int 0, .int 0]))]) (w1 := [(a_32, .inr (4, [.ref f0_34, .ref n0_35, .ref y0_36, .int 0, .int 0, .int 0, .int 45])), (f0_34, .inr (3, [.ref a_1, .ref a_17, .ref q1_37, .ref q2_38, .ref q3_39, .ref q4_40, .ref q5_41, .int 0, .int 0]))]) (wc := [(a_32, .inr (4, [.null, .null, .null, .int 0, .int 0, .int 0, .int 0]))]) hP hD [12] [0, 1, 2, 3, 4, 5, 6, 7, 8, 9, 10, 11] rfl rfl (by decide) (by decide) hk1 hFc hP1 hD1
  have hK := (hK.sub (tys' := [(k1_10, .char), (k2_11, .char), (k3_12, .int), (k4_13, .boolean), (k5_14, .boolean), (k6_15, .boolean), (k7_16, .int)]) [0, 1, 2, 3, 4, 5, 6] rfl).app hK1
  generalize H1 = H at hP hS ⊢
  have hP : va_P (dC, dI) cls [(h0, .inr (10, [.ref a_1, .ref a_17, .ref a_22, .null, .null, .null, .null, .null])), (a_1, .inr (7, [.ref q1_3, .ref q2_4, .ref q3_5, .ref q4_6, .ref q5_7, .ref q6_8, .ref q7_9, .int 0])), (q1_3, .inl (k1_10, 8, .inl (fun _ => 0))), (q2_4, .inl (k2_11, 8, .inl (fun _ => 0))), (q3_5, .inl (k3_12, 8, .inl (fun _ => 0))), (q4_6, .inl (k4_13, 8, .inl (fun _ => 0))), (q5_7, .inl (k5_14, 8, .inl (fun _ => 0))), (q6_8, .inl (k6_15, 8, .inl (fun _ => 0))), (q7_9, .inl (k7_16, 8, .inl (fun _ => 0))), (a_17, .inr (2, [.ref q1_19, .ref q2_20, .ref q3_21, .int 0, .int (-1), .int (-1)])), (a_22, .inr (4, [.ref f0_24, .ref n0_25, .ref y0_26, .int 0, .int 0, .int 0, .int 45])), (f0_24, .inr (3, [.ref a_1, .ref a_17, .ref q1_27, .ref q2_28, .ref q3_29, .ref q4_30, .ref q5_31, .int 0, .int 0])), (a_32, .inr (4, [.ref f0_34, .ref n0_35, .ref y0_36, .int 0, .int 0, .int 0, .int 45])), (f0_34, .inr (3, [.ref a_1, .ref a_17, .ref q1_37, .ref q2_38, .ref q3_39, .ref q4_40, .ref q5_41, .int 0, .int 0]))] H := hP
  have hD : va_D A [(h0, .inr (10, [.ref a_1, .ref a_17, .ref a_22, .null, .null, .null, .null, .null])), (a_1, .inr (7, [.ref q1_3, .ref q2_4, .ref q3_5, .ref q4_6, .ref q5_7, .ref q6_8, .ref q7_9, .int 0])), (q1_3, .inl (k1_10, 8, .inl (fun _ => 0))), (q2_4, .inl (k2_11, 8, .inl (fun _ => 0))), (q3_5, .inl (k3_12, 8, .inl (fun _ => 0))), (q4_6, .inl (k4_13, 8, .inl (fun _ => 0))), (q5_7, .inl (k5_14, 8, .inl (fun _ => 0))), (q6_8, .inl (k6_15, 8, .inl (fun _ => 0))), (q7_9, .inl (k7_16, 8, .inl (fun _ => 0))), (a_17, .inr (2, [.ref q1_19, .ref q2_20, .ref q3_21, .int 0, .int (-1), .int (-1)])), (a_22, .inr (4, [.ref f0_24, .ref n0_25, .ref y0_26, .int 0, .int 0, .int 0, .int 45])), (f0_24, .inr (3, [.ref a_1, .ref a_17, .ref q1_27, .ref q2_28, .ref q3_29, .ref q4_30, .ref q5_31, .int 0, .int 0])), (a_32, .inr (4, [.ref f0_34, .ref n0_35, .ref y0_36, .int 0, .int 0, .int 0, .int 45])), (f0_34, .inr (3, [.ref a_1, .ref a_17, .ref q1_37, .ref q2_38, .ref q3_39, .ref q4_40, .ref q5_41, .int 0, .int 0]))] := hD
  have hK : va_K (dC, dI) cls [(k1_10, .char), (k2_11, .char), (k3_12, .int), (k4_13, .boolean), (k5_14, .boolean), (k6_15, .boolean), (k7_16, .int)] s := hK
  refine W.widen (k := 56) (n := 401) (Nat.le_of_ble_eq_true rfl) (Nat.le_of_ble_eq_true rfl) ?_
  refine va_putF (D := (dC, dI)) (ci := 10) (v := .ref a_32) (ty := (.object "NightfallVillage$Game")) (C := RX10) (T := TX10) (N := 8) hx hb hq i_X10 tyX10 tyX10_ok nmX10 hown hK hP hD hS 0 rfl rfl 3 (by decide) (hq _ q_329) (fun _ h9 => h9) rfl hin rfl (by decide +kernel) rfl rfl (Nat.le_of_ble_eq_true rfl) dX10_init_61 (fun H locs hP hD hS => ?_)
  have hP : va_P (dC, dI) cls [(h0, .inr (10, [.ref a_1, .ref a_17, .ref a_22, .ref a_32, .null, .null, .null, .null])), (a_1, .inr (7, [.ref q1_3, .ref q2_4, .ref q3_5, .ref q4_6, .ref q5_7, .ref q6_8, .ref q7_9, .int 0])), (q1_3, .inl (k1_10, 8, .inl (fun _ => 0))), (q2_4, .inl (k2_11, 8, .inl (fun _ => 0))), (q3_5, .inl (k3_12, 8, .inl (fun _ => 0))), (q4_6, .inl (k4_13, 8, .inl (fun _ => 0))), (q5_7, .inl (k5_14, 8, .inl (fun _ => 0))), (q6_8, .inl (k6_15, 8, .inl (fun _ => 0))), (q7_9, .inl (k7_16, 8, .inl (fun _ => 0))), (a_17, .inr (2, [.ref q1_19, .ref q2_20, .ref q3_21, .int 0, .int (-1), .int (-1)])), (a_22, .inr (4, [.ref f0_24, .ref n0_25, .ref y0_26, .int 0, .int 0, .int 0, .int 45])), (f0_24, .inr (3, [.ref a_1, .ref a_17, .ref q1_27, .ref q2_28, .ref q3_29, .ref q4_30, .ref q5_31, .int 0, .int 0])), (a_32, .inr (4, [.ref f0_34, .ref n0_35, .ref y0_36, .int 0, .int 0, .int 0, .int 45])), (f0_34, .inr (3, [.ref a_1, .ref a_17, .ref q1_37, .ref q2_38, .ref q3_39, .ref q4_40, .ref q5_41, .int 0, .int 0]))] H := hP
  have hD : va_D A [(h0, .inr (10, [.ref a_1, .ref a_17, .ref a_22, .ref a_32, .null, .null, .null, .null])), (a_1, .inr (7, [.ref q1_3, .ref q2_4, .ref q3_5, .ref q4_6, .ref q5_7, .ref q6_8, .ref q7_9, .int 0])), (q1_3, .inl (k1_10, 8, .inl (fun _ => 0))), (q2_4, .inl (k2_11, 8, .inl (fun _ => 0))), (q3_5, .inl (k3_12, 8, .inl (fun _ => 0))), (q4_6, .inl (k4_13, 8, .inl (fun _ => 0))), (q5_7, .inl (k5_14, 8, .inl (fun _ => 0))), (q6_8, .inl (k6_15, 8, .inl (fun _ => 0))), (q7_9, .inl (k7_16, 8, .inl (fun _ => 0))), (a_17, .inr (2, [.ref q1_19, .ref q2_20, .ref q3_21, .int 0, .int (-1), .int (-1)])), (a_22, .inr (4, [.ref f0_24, .ref n0_25, .ref y0_26, .int 0, .int 0, .int 0, .int 45])), (f0_24, .inr (3, [.ref a_1, .ref a_17, .ref q1_27, .ref q2_28, .ref q3_29, .ref q4_30, .ref q5_31, .int 0, .int 0])), (a_32, .inr (4, [.ref f0_34, .ref n0_35, .ref y0_36, .int 0, .int 0, .int 0, .int 45])), (f0_34, .inr (3, [.ref a_1, .ref a_17, .ref q1_37, .ref q2_38, .ref q3_39, .ref q4_40, .ref q5_41, .int 0, .int 0]))] := hD
  refine lv_aload_n hx hb dX10_init_64 rfl (lv_at hl 0 rfl) ?_
  refine va_new (ci := 5) (fs := [.null, .int 0]) (C := RX5) (T := TX5) (N := 2) hx hb hq i_X5 tyX5 tyX5_ok hown (hq _ q_237) (hq _ q_238) (hq _ q_8) hK hP hD hS hA rfl (fun j hj => by rcases (show j = 0 ∨ j = 1 by omega) with rfl | rfl <;> rfl) (Nat.le_of_ble_eq_true rfl) (Nat.le_of_ble_eq_true rfl) dX10_init_65 (fun a_42 H hP hD hS => ?_)
  have hP : va_P (dC, dI) cls [(h0, .inr (10, [.ref a_1, .ref a_17, .ref a_22, .ref a_32, .null, .null, .null, .null])), (a_1, .inr (7, [.ref q1_3, .ref q2_4, .ref q3_5, .ref q4_6, .ref q5_7, .ref q6_8, .ref q7_9, .int 0])), (q1_3, .inl (k1_10, 8, .inl (fun _ => 0))), (q2_4, .inl (k2_11, 8, .inl (fun _ => 0))), (q3_5, .inl (k3_12, 8, .inl (fun _ => 0))), (q4_6, .inl (k4_13, 8, .inl (fun _ => 0))), (q5_7, .inl (k5_14, 8, .inl (fun _ => 0))), (q6_8, .inl (k6_15, 8, .inl (fun _ => 0))), (q7_9, .inl (k7_16, 8, .inl (fun _ => 0))), (a_17, .inr (2, [.ref q1_19, .ref q2_20, .ref q3_21, .int 0, .int (-1), .int (-1)])), (a_22, .inr (4, [.ref f0_24, .ref n0_25, .ref y0_26, .int 0, .int 0, .int 0, .int 45])), (f0_24, .inr (3, [.ref a_1, .ref a_17, .ref q1_27, .ref q2_28, .ref q3_29, .ref q4_30, .ref q5_31, .int 0, .int 0])), (a_32, .inr (4, [.ref f0_34, .ref n0_35, .ref y0_36, .int 0, .int 0, .int 0, .int 45])), (f0_34, .inr (3, [.ref a_1, .ref a_17, .ref q1_37, .ref q2_38, .ref q3_39, .ref q4_40, .ref q5_41, .int 0, .int 0])), (a_42, .inr (5, [.null, .int 0]))] H := hP
  have hD : va_D A [(h0, .inr (10, [.ref a_1, .ref a_17, .ref a_22, .ref a_32, .null, .null, .null, .null])), (a_1, .inr (7, [.ref q1_3, .ref q2_4, .ref q3_5, .ref q4_6, .ref q5_7, .ref q6_8, .ref q7_9, .int 0])), (q1_3, .inl (k1_10, 8, .inl (fun _ => 0))), (q2_4, .inl (k2_11, 8, .inl (fun _ => 0))), (q3_5, .inl (k3_12, 8, .inl (fun _ => 0))), (q4_6, .inl (k4_13, 8, .inl (fun _ => 0))), (q5_7, .inl (k5_14, 8, .inl (fun _ => 0))), (q6_8, .inl (k6_15, 8, .inl (fun _ => 0))), (q7_9, .inl (k7_16, 8, .inl (fun _ => 0))), (a_17, .inr (2, [.ref q1_19, .ref q2_20, .ref q3_21, .int 0, .int (-1), .int (-1)])), (a_22, .inr (4, [.ref f0_24, .ref n0_25, .ref y0_26, .int 0, .int 0, .int 0, .int 45])), (f0_24, .inr (3, [.ref a_1, .ref a_17, .ref q1_27, .ref q2_28, .ref q3_29, .ref q4_30, .ref q5_31, .int 0, .int 0])), (a_32, .inr (4, [.ref f0_34, .ref n0_35, .ref y0_36, .int 0, .int 0, .int 0, .int 45])), (f0_34, .inr (3, [.ref a_1, .ref a_17, .ref q1_37, .ref q2_38, .ref q3_39, .ref q4_40, .ref q5_41, .int 0, .int 0])), (a_42, .inr (5, [.null, .int 0]))] := hD
  refine W.widen (k := 57) (n := 403) (Nat.le_of_ble_eq_true rfl) (Nat.le_of_ble_eq_true rfl) ?_
  refine lv_dup hx hb dX10_init_68 rfl ?_
  have hPc := hP.sub (ws' := [(a_42, .inr (5, [.null, .int 0]))]) [14] rfl
  have hKc := hK.sub (tys' := []) [] rfl
  have hDc := hD.sub (ws' := [(a_42, .inr (5, [.null, .int 0]))]) [14] (by decide) rfl
  have hFc := va_free (wc := [(a_42, .inr (5, [.null, .int 0]))]) hD hS hA [14] rfl
  refine va_callv (va_runIN (As := []) (rest := [.ref a_42, .ref h0]) ⟨hx, hb, hml, hown, hq⟩ (c_History_init l hst tE adK adV dC dI a_42 H.size) (tcIN 0 hq q_241 q_8 q_239 q_240 rfl rfl rfl (by decide +kernel) ⟨Nat.le_of_ble_eq_true rfl, Nat.le_of_ble_eq_true rfl⟩) (pre.S (pre.of hPc hDc hKc ham hS hFc)) rfl rfl hl.1 rfl (lv_room (Nat.le_of_ble_eq_true rfl)) dX10_init_69 ⟨Nat.le_of_ble_eq_true rfl, Nat.le_of_ble_eq_true rfl⟩) hS (fun q _ h => hFc q h) hFc (fun u t H1 locs ht hvm hw hB hz1 hk1 hS => ?_)
  obtain ⟨hP, hD⟩ := va_join (wr := [(h0, .inr (10, [.ref a_1, .ref a_17, .ref a_22, .ref a_32, .null, .null, .null, .null])), (a_1, .inr (7, [.ref q1_3, .ref q2_4, .ref q3_5, .ref q4_6, .ref q5_7, .ref q6_8, .ref q7_9, .int 0])), (q1_3, .inl (k1_10, 8, .inl (fun _ => 0))), (q2_4, .inl (k2_11, 8, .inl (fun _ => 0))), (q3_5, .inl (k3_12, 8, .inl (fun _ => 0))), (q4_6, .inl (k4_13, 8, .inl (fun _ => 0))), (q5_7, .inl (k5_14, 8, .inl (fun _ => 0))), (q6_8, .inl (k6_15, 8, .inl (fun _ => 0))), (q7_9, .inl (k7_16, 8, .inl (fun _ => 0))), (a_17, .inr (2, [.ref q1_19, .ref q2_20, .ref q3_21, .int 0, .int (-1), .int (-1)])), (a_22, .inr (4, [.ref f0_24, .ref n0_25, .ref y0_26, .int 0, .int 0, .int 0, .int 45])), (f0_24, .inr (3, [.ref a_1, .ref a_17, .ref q1_27, .ref q2_28, .ref q3_29, .ref q4_30, .ref q5_31, .int 0, .int 0])), (a_32, .inr (4, [.ref f0_34, .ref n0_35, .ref y0_36, .int 0, .int 0, .int 0, .int 45])), (f0_34, .inr (3, [.ref a_1, .ref a_17, .ref q1_37, .ref q2_38, .ref q3_39, .ref q4_40, .ref q5_41, .int 0, .int 0]))]) (w1 := []) (wc := [(a_42, .inr (5, [.null, .int 0]))]) hP hD [14] [0, 1, 2, 3, 4, 5, 6, 7, 8, 9, 10, 11, 12, 13] rfl rfl (by decide) (by decide) hk1 hFc (fun k q h => by simp at h) ⟨fun i j p q h => by simp at h, fun k q h => by simp at h⟩
  generalize H1 = H at hP hS ⊢
  have hP : va_P (dC, dI) cls [(h0, .inr (10, [.ref a_1, .ref a_17, .ref a_22, .ref a_32, .null, .null, .null, .null])), (a_1, .inr (7, [.ref q1_3, .ref q2_4, .ref q3_5, .ref q4_6, .ref q5_7, .ref q6_8, .ref q7_9, .int 0])), (q1_3, .inl (k1_10, 8, .inl (fun _ => 0))), (q2_4, .inl (k2_11, 8, .inl (fun _ => 0))), (q3_5, .inl (k3_12, 8, .inl (fun _ => 0))), (q4_6, .inl (k4_13, 8, .inl (fun _ => 0))), (q5_7, .inl (k5_14, 8, .inl (fun _ => 0))), (q6_8, .inl (k6_15, 8, .inl (fun _ => 0))), (q7_9, .inl (k7_16, 8, .inl (fun _ => 0))), (a_17, .inr (2, [.ref q1_19, .ref q2_20, .ref q3_21, .int 0, .int (-1), .int (-1)])), (a_22, .inr (4, [.ref f0_24, .ref n0_25, .ref y0_26, .int 0, .int 0, .int 0, .int 45])), (f0_24, .inr (3, [.ref a_1, .ref a_17, .ref q1_27, .ref q2_28, .ref q3_29, .ref q4_30, .ref q5_31, .int 0, .int 0])), (a_32, .inr (4, [.ref f0_34, .ref n0_35, .ref y0_36, .int 0, .int 0, .int 0, .int 45])), (f0_34, .inr (3, [.ref a_1, .ref a_17, .ref q1_37, .ref q2_38, .ref q3_39, .ref q4_40, .ref q5_41, .int 0, .int 0]))] H := hP
  have hD : va_D A [(h0, .inr (10, [.ref a_1, .ref a_17, .ref a_22, .ref a_32, .null, .null, .null, .null])), (a_1, .inr (7, [.ref q1_3, .ref q2_4, .ref q3_5, .ref q4_6, .ref q5_7, .ref q6_8, .ref q7_9, .int 0])), (q1_3, .inl (k1_10, 8, .inl (fun _ => 0))), (q2_4, .inl (k2_11, 8, .inl (fun _ => 0))), (q3_5, .inl (k3_12, 8, .inl (fun _ => 0))), (q4_6, .inl (k4_13, 8, .inl (fun _ => 0))), (q5_7, .inl (k5_14, 8, .inl (fun _ => 0))), (q6_8, .inl (k6_15, 8, .inl (fun _ => 0))), (q7_9, .inl (k7_16, 8, .inl (fun _ => 0))), (a_17, .inr (2, [.ref q1_19, .ref q2_20, .ref q3_21, .int 0, .int (-1), .int (-1)])), (a_22, .inr (4, [.ref f0_24, .ref n0_25, .ref y0_26, .int 0, .int 0, .int 0, .int 45])), (f0_24, .inr (3, [.ref a_1, .ref a_17, .ref q1_27, .ref q2_28, .ref q3_29, .ref q4_30, .ref q5_31, .int 0, .int 0])), (a_32, .inr (4, [.ref f0_34, .ref n0_35, .ref y0_36, .int 0, .int 0, .int 0, .int 45])), (f0_34, .inr (3, [.ref a_1, .ref a_17, .ref q1_37, .ref q2_38, .ref q3_39, .ref q4_40, .ref q5_41, .int 0, .int 0]))] := hD
  have hK : va_K (dC, dI) cls [(k1_10, .char), (k2_11, .char), (k3_12, .int), (k4_13, .boolean), (k5_14, .boolean), (k6_15, .boolean), (k7_16, .int)] s := hK
  refine W.widen (k := 58) (n := 915) (Nat.le_of_ble_eq_true rfl) (Nat.le_of_ble_eq_true rfl) ?_
  refine va_putF (D := (dC, dI)) (ci := 10) (v := .ref a_42) (ty := (.object "NightfallVillage$History")) (C := RX10) (T := TX10) (N := 8) hx hb hq i_X10 tyX10 tyX10_ok nmX10 hown hK hP hD hS 0 rfl rfl 4 (by decide) (hq _ q_330) (fun _ h9 => h9) rfl hin rfl (by decide +kernel) rfl rfl (Nat.le_of_ble_eq_true rfl) dX10_init_72 (fun H locs hP hD hS => ?_)
  have hP : va_P (dC, dI) cls [(h0, .inr (10, [.ref a_1, .ref a_17, .ref a_22, .ref a_32, .ref a_42, .null, .null, .null])), (a_1, .inr (7, [.ref q1_3, .ref q2_4, .ref q3_5, .ref q4_6, .ref q5_7, .ref q6_8, .ref q7_9, .int 0])), (q1_3, .inl (k1_10, 8, .inl (fun _ => 0))), (q2_4, .inl (k2_11, 8, .inl (fun _ => 0))), (q3_5, .inl (k3_12, 8, .inl (fun _ => 0))), (q4_6, .inl (k4_13, 8, .inl (fun _ => 0))), (q5_7, .inl (k5_14, 8, .inl (fun _ => 0))), (q6_8, .inl (k6_15, 8, .inl (fun _ => 0))), (q7_9, .inl (k7_16, 8, .inl (fun _ => 0))), (a_17, .inr (2, [.ref q1_19, .ref q2_20, .ref q3_21, .int 0, .int (-1), .int (-1)])), (a_22, .inr (4, [.ref f0_24, .ref n0_25, .ref y0_26, .int 0, .int 0, .int 0, .int 45])), (f0_24, .inr (3, [.ref a_1, .ref a_17, .ref q1_27, .ref q2_28, .ref q3_29, .ref q4_30, .ref q5_31, .int 0, .int 0])), (a_32, .inr (4, [.ref f0_34, .ref n0_35, .ref y0_36, .int 0, .int 0, .int 0, .int 45])), (f0_34, .inr (3, [.ref a_1, .ref a_17, .ref q1_37, .ref q2_38, .ref q3_39, .ref q4_40, .ref q5_41, .int 0, .int 0]))] H := hP
  have hD : va_D A [(h0, .inr (10, [.ref a_1, .ref a_17, .ref a_22, .ref a_32, .ref a_42, .null, .null, .null])), (a_1, .inr (7, [.ref q1_3, .ref q2_4, .ref q3_5, .ref q4_6, .ref q5_7, .ref q6_8, .ref q7_9, .int 0])), (q1_3, .inl (k1_10, 8, .inl (fun _ => 0))), (q2_4, .inl (k2_11, 8, .inl (fun _ => 0))), (q3_5, .inl (k3_12, 8, .inl (fun _ => 0))), (q4_6, .inl (k4_13, 8, .inl (fun _ => 0))), (q5_7, .inl (k5_14, 8, .inl (fun _ => 0))), (q6_8, .inl (k6_15, 8, .inl (fun _ => 0))), (q7_9, .inl (k7_16, 8, .inl (fun _ => 0))), (a_17, .inr (2, [.ref q1_19, .ref q2_20, .ref q3_21, .int 0, .int (-1), .int (-1)])), (a_22, .inr (4, [.ref f0_24, .ref n0_25, .ref y0_26, .int 0, .int 0, .int 0, .int 45])), (f0_24, .inr (3, [.ref a_1, .ref a_17, .ref q1_27, .ref q2_28, .ref q3_29, .ref q4_30, .ref q5_31, .int 0, .int 0])), (a_32, .inr (4, [.ref f0_34, .ref n0_35, .ref y0_36, .int 0, .int 0, .int 0, .int 45])), (f0_34, .inr (3, [.ref a_1, .ref a_17, .ref q1_37, .ref q2_38, .ref q3_39, .ref q4_40, .ref q5_41, .int 0, .int 0]))] := hD
  refine lv_aload_n hx hb dX10_init_75 rfl (lv_at hl 0 rfl) ?_
  refine va_new (ci := 8) (fs := [.null, .null, .null, .int 0]) (C := RX8) (T := TX8) (N := 4) hx hb hq i_X8 tyX8 tyX8_ok hown (hq _ q_251) (hq _ q_252) (hq _ q_9) hK hP hD hS hA rfl (fun j hj => by rcases (show j = 0 ∨ j = 1 ∨ j = 2 ∨ j = 3 by omega) with rfl | rfl | rfl | rfl <;> rfl) (Nat.le_of_ble_eq_true rfl) (Nat.le_of_ble_eq_true rfl) dX10_init_76 (fun a_44 H hP hD hS => ?_)
  have hP : va_P (dC, dI) cls [(h0, .inr (10, [.ref a_1, .ref a_17, .ref a_22, .ref a_32, .ref a_42, .null, .null, .null])), (a_1, .inr (7, [.ref q1_3, .ref q2_4, .ref q3_5, .ref q4_6, .ref q5_7, .ref q6_8, .ref q7_9, .int 0])), (q1_3, .inl (k1_10, 8, .inl (fun _ => 0))), (q2_4, .inl (k2_11, 8, .inl (fun _ => 0))), (q3_5, .inl (k3_12, 8, .inl (fun _ => 0))), (q4_6, .inl (k4_13, 8, .inl (fun _ => 0))), (q5_7, .inl (k5_14, 8, .inl (fun _ => 0))), (q6_8, .inl (k6_15, 8, .inl (fun _ => 0))), (q7_9, .inl (k7_16, 8, .inl (fun _ => 0))), (a_17, .inr (2, [.ref q1_19, .ref q2_20, .ref q3_21, .int 0, .int (-1), .int (-1)])), (a_22, .inr (4, [.ref f0_24, .ref n0_25, .ref y0_26, .int 0, .int 0, .int 0, .int 45])), (f0_24, .inr (3, [.ref a_1, .ref a_17, .ref q1_27, .ref q2_28, .ref q3_29, .ref q4_30, .ref q5_31, .int 0, .int 0])), (a_32, .inr (4, [.ref f0_34, .ref n0_35, .ref y0_36, .int 0, .int 0, .int 0, .int 45])), (f0_34, .inr (3, [.ref a_1, .ref a_17, .ref q1_37, .ref q2_38, .ref q3_39, .ref q4_40, .ref q5_41, .int 0, .int 0])), (a_44, .inr (8, [.null, .null, .null, .int 0]))] H := hP
  have hD : va_D A [(h0, .inr (10, [.ref a_1, .ref a_17, .ref a_22, .ref a_32, .ref a_42, .null, .null, .null])), (a_1, .inr (7, [.ref q1_3, .ref q2_4, .ref q3_5, .ref q4_6, .ref q5_7, .ref q6_8, .ref q7_9, .int 0])), (q1_3, .inl (k1_10, 8, .inl (fun _ => 0))), (q2_4, .inl (k2_11, 8, .inl (fun _ => 0))), (q3_5, .inl (k3_12, 8, .inl (fun _ => 0))), (q4_6, .inl (k4_13, 8, .inl (fun _ => 0))), (q5_7, .inl (k5_14, 8, .inl (fun _ => 0))), (q6_8, .inl (k6_15, 8, .inl (fun _ => 0))), (q7_9, .inl (k7_16, 8, .inl (fun _ => 0))), (a_17, .inr (2, [.ref q1_19, .ref q2_20, .ref q3_21, .int 0, .int (-1), .int (-1)])), (a_22, .inr (4, [.ref f0_24, .ref n0_25, .ref y0_26, .int 0, .int 0, .int 0, .int 45])), (f0_24, .inr (3, [.ref a_1, .ref a_17, .ref q1_27, .ref q2_28, .ref q3_29, .ref q4_30, .ref q5_31, .int 0, .int 0])), (a_32, .inr (4, [.ref f0_34, .ref n0_35, .ref y0_36, .int 0, .int 0, .int 0, .int 45])), (f0_34, .inr (3, [.ref a_1, .ref a_17, .ref q1_37, .ref q2_38, .ref q3_39, .ref q4_40, .ref q5_41, .int 0, .int 0])), (a_44, .inr (8, [.null, .null, .null, .int 0]))] := hD
  refine W.widen (k := 59) (n := 919) (Nat.le_of_ble_eq_true rfl) (Nat.le_of_ble_eq_true rfl) ?_
  refine lv_dup hx hb dX10_init_79 rfl ?_
  have hPc := hP.sub (ws' := [(a_44, .inr (8, [.null, .null, .null, .int 0]))]) [14] rfl
  have hKc := hK.sub (tys' := []) [] rfl
  have hDc := hD.sub (ws' := [(a_44, .inr (8, [.null, .null, .null, .int 0]))]) [14] (by decide) rfl
  have hFc := va_free (wc := [(a_44, .inr (8, [.null, .null, .null, .int 0]))]) hD hS hA [14] rfl
  refine va_callv (va_runIN (As := []) (rest := [.ref a_44, .ref h0]) ⟨hx, hb, hml, hown, hq⟩ (c_Sights_init l hst tE adK adV dC dI a_44 H.size) (tcIN 0 hq q_255 q_9 q_253 q_254 rfl rfl rfl (by decide +kernel) ⟨Nat.le_of_ble_eq_true rfl, Nat.le_of_ble_eq_true rfl⟩) (pre.S (pre.of hPc hDc hKc ham hS hFc)) rfl rfl hl.1 rfl (lv_room (Nat.le_of_ble_eq_true rfl)) dX10_init_80 ⟨Nat.le_of_ble_eq_true rfl, Nat.le_of_ble_eq_true rfl⟩) hS (fun q _ h => hFc q h) hFc (fun u t H1 locs ht hvm hw hB hz1 hk1 hS => ?_)
  obtain ⟨hP, hD⟩ := va_join (wr := [(h0, .inr (10, [.ref a_1, .ref a_17, .ref a_22, .ref a_32, .ref a_42, .null, .null, .null])), (a_1, .inr (7, [.ref q1_3, .ref q2_4, .ref q3_5, .ref q4_6, .ref q5_7, .ref q6_8, .ref q7_9, .int 0])), (q1_3, .inl (k1_10, 8, .inl (fun _ => 0))), (q2_4, .inl (k2_11, 8, .inl (fun _ => 0))), (q3_5, .inl (k3_12, 8, .inl (fun _ => 0))), (q4_6, .inl (k4_13, 8, .inl (fun _ => 0))), (q5_7, .inl (k5_14, 8, .inl (fun _ => 0))), (q6_8, .inl (k6_15, 8, .inl (fun _ => 0))), (q7_9, .inl (k7_16, 8, .inl (fun _ => 0))), (a_17, .inr (2, [.ref q1_19, .ref q2_20, .ref q3_21, .int 0, .int (-1), .int (-1)])), (a_22, .inr (4, [.ref f0_24, .ref n0_25, .ref y0_26, .int 0, .int 0, .int 0, .int 45])), (f0_24, .inr (3, [.ref a_1, .ref a_17, .ref q1_27, .ref q2_28, .ref q3_29, .ref q4_30, .ref q5_31, .int 0, .int 0])), (a_32, .inr (4, [.ref f0_34, .ref n0_35, .ref y0_36, .int 0, .int 0, .int 0, .int 45])), (f0_34, .inr (3, [.ref a_1, .ref a_17, .ref q1_37, .ref q2_38, .ref q3_39, .ref q4_40, .ref q5_41, .int 0, .int 0]))]) (w1 := []) (wc := [(a_44, .inr (8, [.null, .null, .null, .int 0]))]) hP hD [14] [0, 1, 2, 3, 4, 5, 6, 7, 8, 9, 10, 11, 12, 13] rfl rfl (by decide) (by decide) hk1 hFc (fun k q h => by simp at h) ⟨fun i j p q h => by simp at h, fun k q h => by simp at h⟩
  generalize H1 = H at hP hS ⊢
  have hP : va_P (dC, dI) cls [(h0, .inr (10, [.ref a_1, .ref a_17, .ref a_22, .ref a_32, .ref a_42, .null, .null, .null])), (a_1, .inr (7, [.ref q1_3, .ref q2_4, .ref q3_5, .ref q4_6, .ref q5_7, .ref q6_8, .ref q7_9, .int 0])), (q1_3, .inl (k1_10, 8, .inl (fun _ => 0))), (q2_4, .inl (k2_11, 8, .inl (fun _ => 0))), (q3_5, .inl (k3_12, 8, .inl (fun _ => 0))), (q4_6, .inl (k4_13, 8, .inl (fun _ => 0))), (q5_7, .inl (k5_14, 8, .inl (fun _ => 0))), (q6_8, .inl (k6_15, 8, .inl (fun _ => 0))), (q7_9, .inl (k7_16, 8, .inl (fun _ => 0))), (a_17, .inr (2, [.ref q1_19, .ref q2_20, .ref q3_21, .int 0, .int (-1), .int (-1)])), (a_22, .inr (4, [.ref f0_24, .ref n0_25, .ref y0_26, .int 0, .int 0, .int 0, .int 45])), (f0_24, .inr (3, [.ref a_1, .ref a_17, .ref q1_27, .ref q2_28, .ref q3_29, .ref q4_30, .ref q5_31, .int 0, .int 0])), (a_32, .inr (4, [.ref f0_34, .ref n0_35, .ref y0_36, .int 0, .int 0, .int 0, .int 45])), (f0_34, .inr (3, [.ref a_1, .ref a_17, .ref q1_37, .ref q2_38, .ref q3_39, .ref q4_40, .ref q5_41, .int 0, .int 0]))] H := hP
  have hD : va_D A [(h0, .inr (10, [.ref a_1, .ref a_17, .ref a_22, .ref a_32, .ref a_42, .null, .null, .null])), (a_1, .inr (7, [.ref q1_3, .ref q2_4, .ref q3_5, .ref q4_6, .ref q5_7, .ref q6_8, .ref q7_9, .int 0])), (q1_3, .inl (k1_10, 8, .inl (fun _ => 0))), (q2_4, .inl (k2_11, 8, .inl (fun _ => 0))), (q3_5, .inl (k3_12, 8, .inl (fun _ => 0))), (q4_6, .inl (k4_13, 8, .inl (fun _ => 0))), (q5_7, .inl (k5_14, 8, .inl (fun _ => 0))), (q6_8, .inl (k6_15, 8, .inl (fun _ => 0))), (q7_9, .inl (k7_16, 8, .inl (fun _ => 0))), (a_17, .inr (2, [.ref q1_19, .ref q2_20, .ref q3_21, .int 0, .int (-1), .int (-1)])), (a_22, .inr (4, [.ref f0_24, .ref n0_25, .ref y0_26, .int 0, .int 0, .int 0, .int 45])), (f0_24, .inr (3, [.ref a_1, .ref a_17, .ref q1_27, .ref q2_28, .ref q3_29, .ref q4_30, .ref q5_31, .int 0, .int 0])), (a_32, .inr (4, [.ref f0_34, .ref n0_35, .ref y0_36, .int 0, .int 0, .int 0, .int 45])), (f0_34, .inr (3, [.ref a_1, .ref a_17, .ref q1_37, .ref q2_38, .ref q3_39, .ref q4_40, .ref q5_41, .int 0, .int 0]))] := hD
  have hK : va_K (dC, dI) cls [(k1_10, .char), (k2_11, .char), (k3_12, .int), (k4_13, .boolean), (k5_14, .boolean), (k6_15, .boolean), (k7_16, .int)] s := hK
  refine W.widen (k := 62) (n := 4601) (Nat.le_of_ble_eq_true rfl) (Nat.le_of_ble_eq_true rfl) ?_
  refine va_putF (D := (dC, dI)) (ci := 10) (v := .ref a_44) (ty := (.object "NightfallVillage$Sights")) (C := RX10) (T := TX10) (N := 8) hx hb hq i_X10 tyX10 tyX10_ok nmX10 hown hK hP hD hS 0 rfl rfl 5 (by decide) (hq _ q_331) (fun _ h9 => h9) rfl hin rfl (by decide +kernel) rfl rfl (Nat.le_of_ble_eq_true rfl) dX10_init_83 (fun H locs hP hD hS => ?_)
  have hP : va_P (dC, dI) cls [(h0, .inr (10, [.ref a_1, .ref a_17, .ref a_22, .ref a_32, .ref a_42, .ref a_44, .null, .null])), (a_1, .inr (7, [.ref q1_3, .ref q2_4, .ref q3_5, .ref q4_6, .ref q5_7, .ref q6_8, .ref q7_9, .int 0])), (q1_3, .inl (k1_10, 8, .inl (fun _ => 0))), (q2_4, .inl (k2_11, 8, .inl (fun _ => 0))), (q3_5, .inl (k3_12, 8, .inl (fun _ => 0))), (q4_6, .inl (k4_13, 8, .inl (fun _ => 0))), (q5_7, .inl (k5_14, 8, .inl (fun _ => 0))), (q6_8, .inl (k6_15, 8, .inl (fun _ => 0))), (q7_9, .inl (k7_16, 8, .inl (fun _ => 0))), (a_17, .inr (2, [.ref q1_19, .ref q2_20, .ref q3_21, .int 0, .int (-1), .int (-1)])), (a_22, .inr (4, [.ref f0_24, .ref n0_25, .ref y0_26, .int 0, .int 0, .int 0, .int 45])), (f0_24, .inr (3, [.ref a_1, .ref a_17, .ref q1_27, .ref q2_28, .ref q3_29, .ref q4_30, .ref q5_31, .int 0, .int 0])), (a_32, .inr (4, [.ref f0_34, .ref n0_35, .ref y0_36, .int 0, .int 0, .int 0, .int 45])), (f0_34, .inr (3, [.ref a_1, .ref a_17, .ref q1_37, .ref q2_38, .ref q3_39, .ref q4_40, .ref q5_41, .int 0, .int 0]))] H := hP
  have hD : va_D A [(h0, .inr (10, [.ref a_1, .ref a_17, .ref a_22, .ref a_32, .ref a_42, .ref a_44, .null, .null])), (a_1, .inr (7, [.ref q1_3, .ref q2_4, .ref q3_5, .ref q4_6, .ref q5_7, .ref q6_8, .ref q7_9, .int 0])), (q1_3, .inl (k1_10, 8, .inl (fun _ => 0))), (q2_4, .inl (k2_11, 8, .inl (fun _ => 0))), (q3_5, .inl (k3_12, 8, .inl (fun _ => 0))), (q4_6, .inl (k4_13, 8, .inl (fun _ => 0))), (q5_7, .inl (k5_14, 8, .inl (fun _ => 0))), (q6_8, .inl (k6_15, 8, .inl (fun _ => 0))), (q7_9, .inl (k7_16, 8, .inl (fun _ => 0))), (a_17, .inr (2, [.ref q1_19, .ref q2_20, .ref q3_21, .int 0, .int (-1), .int (-1)])), (a_22, .inr (4, [.ref f0_24, .ref n0_25, .ref y0_26, .int 0, .int 0, .int 0, .int 45])), (f0_24, .inr (3, [.ref a_1, .ref a_17, .ref q1_27, .ref q2_28, .ref q3_29, .ref q4_30, .ref q5_31, .int 0, .int 0])), (a_32, .inr (4, [.ref f0_34, .ref n0_35, .ref y0_36, .int 0, .int 0, .int 0, .int 45])), (f0_34, .inr (3, [.ref a_1, .ref a_17, .ref q1_37, .ref q2_38, .ref q3_39, .ref q4_40, .ref q5_41, .int 0, .int 0]))] := hD
  refine lv_aload_n hx hb dX10_init_86 rfl (lv_at hl 0 rfl) ?_
  refine va_new (ci := 0) (fs := [.null, .null, .null, .int 0]) (C := RX0) (T := TX0) (N := 4) hx hb hq i_X0 tyX0 tyX0_ok hown (hq _ q_271) (hq _ q_272) (hq _ q_10) hK hP hD hS hA rfl (fun j hj => by rcases (show j = 0 ∨ j = 1 ∨ j = 2 ∨ j = 3 by omega) with rfl | rfl | rfl | rfl <;> rfl) (Nat.le_of_ble_eq_true rfl) (Nat.le_of_ble_eq_true rfl) dX10_init_87 (fun a_46 H hP hD hS => ?_)
  have hP : va_P (dC, dI) cls [(h0, .inr (10, [.ref a_1, .ref a_17, .ref a_22, .ref a_32, .ref a_42, .ref a_44, .null, .null])), (a_1, .inr (7, [.ref q1_3, .ref q2_4, .ref q3_5, .ref q4_6, .ref q5_7, .ref q6_8, .ref q7_9, .int 0])), (q1_3, .inl (k1_10, 8, .inl (fun _ => 0))), (q2_4, .inl (k2_11, 8, .inl (fun _ => 0))), (q3_5, .inl (k3_12, 8, .inl (fun _ => 0))), (q4_6, .inl (k4_13, 8, .inl (fun _ => 0))), (q5_7, .inl (k5_14, 8, .inl (fun _ => 0))), (q6_8, .inl (k6_15, 8, .inl (fun _ => 0))), (q7_9, .inl (k7_16, 8, .inl (fun _ => 0))), (a_17, .inr (2, [.ref q1_19, .ref q2_20, .ref q3_21, .int 0, .int (-1), .int (-1)])), (a_22, .inr (4, [.ref f0_24, .ref n0_25, .ref y0_26, .int 0, .int 0, .int 0, .int 45])), (f0_24, .inr (3, [.ref a_1, .ref a_17, .ref q1_27, .ref q2_28, .ref q3_29, .ref q4_30, .ref q5_31, .int 0, .int 0])), (a_32, .inr (4, [.ref f0_34, .ref n0_35, .ref y0_36, .int 0, .int 0, .int 0, .int 45])), (f0_34, .inr (3, [.ref a_1, .ref a_17, .ref q1_37, .ref q2_38, .ref q3_39, .ref q4_40, .ref q5_41, .int 0, .int 0])), (a_46, .inr (0, [.null, .null, .null, .int 0]))] H := hP
  have hD : va_D A [(h0, .inr (10, [.ref a_1, .ref a_17, .ref a_22, .ref a_32, .ref a_42, .ref a_44, .null, .null])), (a_1, .inr (7, [.ref q1_3, .ref q2_4, .ref q3_5, .ref q4_6, .ref q5_7, .ref q6_8, .ref q7_9, .int 0])), (q1_3, .inl (k1_10, 8, .inl (fun _ => 0))), (q2_4, .inl (k2_11, 8, .inl (fun _ => 0))), (q3_5, .inl (k3_12, 8, .inl (fun _ => 0))), (q4_6, .inl (k4_13, 8, .inl (fun _ => 0))), (q5_7, .inl (k5_14, 8, .inl (fun _ => 0))), (q6_8, .inl (k6_15, 8, .inl (fun _ => 0))), (q7_9, .inl (k7_16, 8, .inl (fun _ => 0))), (a_17, .inr (2, [.ref q1_19, .ref q2_20, .ref q3_21, .int 0, .int (-1), .int (-1)])), (a_22, .inr (4, [.ref f0_24, .ref n0_25, .ref y0_26, .int 0, .int 0, .int 0, .int 45])), (f0_24, .inr (3, [.ref a_1, .ref a_17, .ref q1_27, .ref q2_28, .ref q3_29, .ref q4_30, .ref q5_31, .int 0, .int 0])), (a_32, .inr (4, [.ref f0_34, .ref n0_35, .ref y0_36, .int 0, .int 0, .int 0, .int 45])), (f0_34, .inr (3, [.ref a_1, .ref a_17, .ref q1_37, .ref q2_38, .ref q3_39, .ref q4_40, .ref q5_41, .int 0, .int 0])), (a_46, .inr (0, [.null, .null, .null, .int 0]))] := hD
  refine W.widen (k := 63) (n := 4605) (Nat.le_of_ble_eq_true rfl) (Nat.le_of_ble_eq_true rfl) ?_
  refine lv_dup hx hb dX10_init_90 rfl ?_
  have hPc := hP.sub (ws' := [(a_46, .inr (0, [.null, .null, .null, .int 0]))]) [14] rfl
  have hKc := hK.sub (tys' := []) [] rfl
  have hDc := hD.sub (ws' := [(a_46, .inr (0, [.null, .null, .null, .int 0]))]) [14] (by decide) rfl
  have hFc := va_free (wc := [(a_46, .inr (0, [.null, .null, .null, .int 0]))]) hD hS hA [14] rfl
  refine va_callv (va_runIN (As := []) (rest := [.ref a_46, .ref h0]) ⟨hx, hb, hml, hown, hq⟩ (c_Claims_init l hst tE adK adV dC dI a_46 H.size) (tcIN 0 hq q_275 q_10 q_273 q_274 rfl rfl rfl (by decide +kernel) ⟨Nat.le_of_ble_eq_true rfl, Nat.le_of_ble_eq_true rfl⟩) (pre.S (pre.of hPc hDc hKc ham hS hFc)) rfl rfl hl.1 rfl (lv_room (Nat.le_of_ble_eq_true rfl)) dX10_init_91 ⟨Nat.le_of_ble_eq_true rfl, Nat.le_of_ble_eq_true rfl⟩) hS (fun q _ h => hFc q h) hFc (fun u t H1 locs ht hvm hw hB hz1 hk1 hS => ?_)
  obtain ⟨hP, hD⟩ := va_join (wr := [(h0, .inr (10, [.ref a_1, .ref a_17, .ref a_22, .ref a_32, .ref a_42, .ref a_44, .null, .null])), (a_1, .inr (7, [.ref q1_3, .ref q2_4, .ref q3_5, .ref q4_6, .ref q5_7, .ref q6_8, .ref q7_9, .int 0])), (q1_3, .inl (k1_10, 8, .inl (fun _ => 0))), (q2_4, .inl (k2_11, 8, .inl (fun _ => 0))), (q3_5, .inl (k3_12, 8, .inl (fun _ => 0))), (q4_6, .inl (k4_13, 8, .inl (fun _ => 0))), (q5_7, .inl (k5_14, 8, .inl (fun _ => 0))), (q6_8, .inl (k6_15, 8, .inl (fun _ => 0))), (q7_9, .inl (k7_16, 8, .inl (fun _ => 0))), (a_17, .inr (2, [.ref q1_19, .ref q2_20, .ref q3_21, .int 0, .int (-1), .int (-1)])), (a_22, .inr (4, [.ref f0_24, .ref n0_25, .ref y0_26, .int 0, .int 0, .int 0, .int 45])), (f0_24, .inr (3, [.ref a_1, .ref a_17, .ref q1_27, .ref q2_28, .ref q3_29, .ref q4_30, .ref q5_31, .int 0, .int 0])), (a_32, .inr (4, [.ref f0_34, .ref n0_35, .ref y0_36, .int 0, .int 0, .int 0, .int 45])), (f0_34, .inr (3, [.ref a_1, .ref a_17, .ref q1_37, .ref q2_38, .ref q3_39, .ref q4_40, .ref q5_41, .int 0, .int 0]))]) (w1 := []) (wc := [(a_46, .inr (0, [.null, .null, .null, .int 0]))]) hP hD [14] [0, 1, 2, 3, 4, 5, 6, 7, 8, 9, 10, 11, 12, 13] rfl rfl (by decide) (by decide) hk1 hFc (fun k q h => by simp at h) ⟨fun i j p q h => by simp at h, fun k q h => by simp at h⟩
  generalize H1 = H at hP hS ⊢
  have hP : va_P (dC, dI) cls [(h0, .inr (10, [.ref a_1, .ref a_17, .ref a_22, .ref a_32, .ref a_42, .ref a_44, .null, .null])), (a_1, .inr (7, [.ref q1_3, .ref q2_4, .ref q3_5, .ref q4_6, .ref q5_7, .ref q6_8, .ref q7_9, .int 0])), (q1_3, .inl (k1_10, 8, .inl (fun _ => 0))), (q2_4, .inl (k2_11, 8, .inl (fun _ => 0))), (q3_5, .inl (k3_12, 8, .inl (fun _ => 0))), (q4_6, .inl (k4_13, 8, .inl (fun _ => 0))), (q5_7, .inl (k5_14, 8, .inl (fun _ => 0))), (q6_8, .inl (k6_15, 8, .inl (fun _ => 0))), (q7_9, .inl (k7_16, 8, .inl (fun _ => 0))), (a_17, .inr (2, [.ref q1_19, .ref q2_20, .ref q3_21, .int 0, .int (-1), .int (-1)])), (a_22, .inr (4, [.ref f0_24, .ref n0_25, .ref y0_26, .int 0, .int 0, .int 0, .int 45])), (f0_24, .inr (3, [.ref a_1, .ref a_17, .ref q1_27, .ref q2_28, .ref q3_29, .ref q4_30, .ref q5_31, .int 0, .int 0])), (a_32, .inr (4, [.ref f0_34, .ref n0_35, .ref y0_36, .int 0, .int 0, .int 0, .int 45])), (f0_34, .inr (3, [.ref a_1, .ref a_17, .ref q1_37, .ref q2_38, .ref q3_39, .ref q4_40, .ref q5_41, .int 0, .int 0]))] H := hP
  have hD : va_D A [(h0, .inr (10, [.ref a_1, .ref a_17, .ref a_22, .ref a_32, .ref a_42, .ref a_44, .null, .null])), (a_1, .inr (7, [.ref q1_3, .ref q2_4, .ref q3_5, .ref q4_6, .ref q5_7, .ref q6_8, .ref q7_9, .int 0])), (q1_3, .inl (k1_10, 8, .inl (fun _ => 0))), (q2_4, .inl (k2_11, 8, .inl (fun _ => 0))), (q3_5, .inl (k3_12, 8, .inl (fun _ => 0))), (q4_6, .inl (k4_13, 8, .inl (fun _ => 0))), (q5_7, .inl (k5_14, 8, .inl (fun _ => 0))), (q6_8, .inl (k6_15, 8, .inl (fun _ => 0))), (q7_9, .inl (k7_16, 8, .inl (fun _ => 0))), (a_17, .inr (2, [.ref q1_19, .ref q2_20, .ref q3_21, .int 0, .int (-1), .int (-1)])), (a_22, .inr (4, [.ref f0_24, .ref n0_25, .ref y0_26, .int 0, .int 0, .int 0, .int 45])), (f0_24, .inr (3, [.ref a_1, .ref a_17, .ref q1_27, .ref q2_28, .ref q3_29, .ref q4_30, .ref q5_31, .int 0, .int 0])), (a_32, .inr (4, [.ref f0_34, .ref n0_35, .ref y0_36, .int 0, .int 0, .int 0, .int 45])), (f0_34, .inr (3, [.ref a_1, .ref a_17, .ref q1_37, .ref q2_38, .ref q3_39, .ref q4_40, .ref q5_41, .int 0, .int 0]))] := hD
  have hK : va_K (dC, dI) cls [(k1_10, .char), (k2_11, .char), (k3_12, .int), (k4_13, .boolean), (k5_14, .boolean), (k6_15, .boolean), (k7_16, .int)] s := hK
  refine W.widen (k := 66) (n := 4695) (Nat.le_of_ble_eq_true rfl) (Nat.le_of_ble_eq_true rfl) ?_
  refine va_putF (D := (dC, dI)) (ci := 10) (v := .ref a_46) (ty := (.object "NightfallVillage$Claims")) (C := RX10) (T := TX10) (N := 8) hx hb hq i_X10 tyX10 tyX10_ok nmX10 hown hK hP hD hS 0 rfl rfl 6 (by decide) (hq _ q_332) (fun _ h9 => h9) rfl hin rfl (by decide +kernel) rfl rfl (Nat.le_of_ble_eq_true rfl) dX10_init_94 (fun H locs hP hD hS => ?_)
  have hP : va_P (dC, dI) cls [(h0, .inr (10, [.ref a_1, .ref a_17, .ref a_22, .ref a_32, .ref a_42, .ref a_44, .ref a_46, .null])), (a_1, .inr (7, [.ref q1_3, .ref q2_4, .ref q3_5, .ref q4_6, .ref q5_7, .ref q6_8, .ref q7_9, .int 0])), (q1_3, .inl (k1_10, 8, .inl (fun _ => 0))), (q2_4, .inl (k2_11, 8, .inl (fun _ => 0))), (q3_5, .inl (k3_12, 8, .inl (fun _ => 0))), (q4_6, .inl (k4_13, 8, .inl (fun _ => 0))), (q5_7, .inl (k5_14, 8, .inl (fun _ => 0))), (q6_8, .inl (k6_15, 8, .inl (fun _ => 0))), (q7_9, .inl (k7_16, 8, .inl (fun _ => 0))), (a_17, .inr (2, [.ref q1_19, .ref q2_20, .ref q3_21, .int 0, .int (-1), .int (-1)])), (a_22, .inr (4, [.ref f0_24, .ref n0_25, .ref y0_26, .int 0, .int 0, .int 0, .int 45])), (f0_24, .inr (3, [.ref a_1, .ref a_17, .ref q1_27, .ref q2_28, .ref q3_29, .ref q4_30, .ref q5_31, .int 0, .int 0])), (a_32, .inr (4, [.ref f0_34, .ref n0_35, .ref y0_36, .int 0, .int 0, .int 0, .int 45])), (f0_34, .inr (3, [.ref a_1, .ref a_17, .ref q1_37, .ref q2_38, .ref q3_39, .ref q4_40, .ref q5_41, .int 0, .int 0]))] H := hP
  have hD : va_D A [(h0, .inr (10, [.ref a_1, .ref a_17, .ref a_22, .ref a_32, .ref a_42, .ref a_44, .ref a_46, .null])), (a_1, .inr (7, [.ref q1_3, .ref q2_4, .ref q3_5, .ref q4_6, .ref q5_7, .ref q6_8, .ref q7_9, .int 0])), (q1_3, .inl (k1_10, 8, .inl (fun _ => 0))), (q2_4, .inl (k2_11, 8, .inl (fun _ => 0))), (q3_5, .inl (k3_12, 8, .inl (fun _ => 0))), (q4_6, .inl (k4_13, 8, .inl (fun _ => 0))), (q5_7, .inl (k5_14, 8, .inl (fun _ => 0))), (q6_8, .inl (k6_15, 8, .inl (fun _ => 0))), (q7_9, .inl (k7_16, 8, .inl (fun _ => 0))), (a_17, .inr (2, [.ref q1_19, .ref q2_20, .ref q3_21, .int 0, .int (-1), .int (-1)])), (a_22, .inr (4, [.ref f0_24, .ref n0_25, .ref y0_26, .int 0, .int 0, .int 0, .int 45])), (f0_24, .inr (3, [.ref a_1, .ref a_17, .ref q1_27, .ref q2_28, .ref q3_29, .ref q4_30, .ref q5_31, .int 0, .int 0])), (a_32, .inr (4, [.ref f0_34, .ref n0_35, .ref y0_36, .int 0, .int 0, .int 0, .int 45])), (f0_34, .inr (3, [.ref a_1, .ref a_17, .ref q1_37, .ref q2_38, .ref q3_39, .ref q4_40, .ref q5_41, .int 0, .int 0]))] := hD
  refine lv_aload_n hx hb dX10_init_97 rfl (lv_at hl 0 rfl) ?_
  refine va_new (ci := 9) (fs := [.null, .null, .null, .null, .null, .null, .null, .int 0, .int 0]) (C := RX9) (T := TX9) (N := 9) hx hb hq i_X9 tyX9 tyX9_ok hown (hq _ q_291) (hq _ q_292) (hq _ q_11) hK hP hD hS hA rfl (fun j hj => by rcases (show j = 0 ∨ j = 1 ∨ j = 2 ∨ j = 3 ∨ j = 4 ∨ j = 5 ∨ j = 6 ∨ j = 7 ∨ j = 8 by omega) with rfl | rfl | rfl | rfl | rfl | rfl | rfl | rfl | rfl <;> rfl) (Nat.le_of_ble_eq_true rfl) (Nat.le_of_ble_eq_true rfl) dX10_init_98 (fun a_48 H hP hD hS => ?_)
  have hP : va_P (dC, dI) cls [(h0, .inr (10, [.ref a_1, .ref a_17, .ref a_22, .ref a_32, .ref a_42, .ref a_44, .ref a_46, .null])), (a_1, .inr (7, [.ref q1_3, .ref q2_4, .ref q3_5, .ref q4_6, .ref q5_7, .ref q6_8, .ref q7_9, .int 0])), (q1_3, .inl (k1_10, 8, .inl (fun _ => 0))), (q2_4, .inl (k2_11, 8, .inl (fun _ => 0))), (q3_5, .inl (k3_12, 8, .inl (fun _ => 0))), (q4_6, .inl (k4_13, 8, .inl (fun _ => 0))), (q5_7, .inl (k5_14, 8, .inl (fun _ => 0))), (q6_8, .inl (k6_15, 8, .inl (fun _ => 0))), (q7_9, .inl (k7_16, 8, .inl (fun _ => 0))), (a_17, .inr (2, [.ref q1_19, .ref q2_20, .ref q3_21, .int 0, .int (-1), .int (-1)])), (a_22, .inr (4, [.ref f0_24, .ref n0_25, .ref y0_26, .int 0, .int 0, .int 0, .int 45])), (f0_24, .inr (3, [.ref a_1, .ref a_17, .ref q1_27, .ref q2_28, .ref q3_29, .ref q4_30, .ref q5_31, .int 0, .int 0])), (a_32, .inr (4, [.ref f0_34, .ref n0_35, .ref y0_36, .int 0, .int 0, .int 0, .int 45])), (f0_34, .inr (3, [.ref a_1, .ref a_17, .ref q1_37, .ref q2_38, .ref q3_39, .ref q4_40, .ref q5_41, .int 0, .int 0])), (a_48, .inr (9, [.null, .null, .null, .null, .null, .null, .null, .int 0, .int 0]))] H := hP
  have hD : va_D A [(h0, .inr (10, [.ref a_1, .ref a_17, .ref a_22, .ref a_32, .ref a_42, .ref a_44, .ref a_46, .null])), (a_1, .inr (7, [.ref q1_3, .ref q2_4, .ref q3_5, .ref q4_6, .ref q5_7, .ref q6_8, .ref q7_9, .int 0])), (q1_3, .inl (k1_10, 8, .inl (fun _ => 0))), (q2_4, .inl (k2_11, 8, .inl (fun _ => 0))), (q3_5, .inl (k3_12, 8, .inl (fun _ => 0))), (q4_6, .inl (k4_13, 8, .inl (fun _ => 0))), (q5_7, .inl (k5_14, 8, .inl (fun _ => 0))), (q6_8, .inl (k6_15, 8, .inl (fun _ => 0))), (q7_9, .inl (k7_16, 8, .inl (fun _ => 0))), (a_17, .inr (2, [.ref q1_19, .ref q2_20, .ref q3_21, .int 0, .int (-1), .int (-1)])), (a_22, .inr (4, [.ref f0_24, .ref n0_25, .ref y0_26, .int 0, .int 0, .int 0, .int 45])), (f0_24, .inr (3, [.ref a_1, .ref a_17, .ref q1_27, .ref q2_28, .ref q3_29, .ref q4_30, .ref q5_31, .int 0, .int 0])), (a_32, .inr (4, [.ref f0_34, .ref n0_35, .ref y0_36, .int 0, .int 0, .int 0, .int 45])), (f0_34, .inr (3, [.ref a_1, .ref a_17, .ref q1_37, .ref q2_38, .ref q3_39, .ref q4_40, .ref q5_41, .int 0, .int 0])), (a_48, .inr (9, [.null, .null, .null, .null, .null, .null, .null, .int 0, .int 0]))] := hD
  refine W.widen (k := 67) (n := 4704) (Nat.le_of_ble_eq_true rfl) (Nat.le_of_ble_eq_true rfl) ?_
  refine lv_dup hx hb dX10_init_101 rfl ?_
  refine lv_aload_n hx hb dX10_init_102 rfl (lv_at hl 0 rfl) ?_
  refine va_get (D := (dC, dI)) (ci := 10) (v := .ref a_1) (C := RX10) (T := TX10) (N := 8) hx hb hq i_X10 hown hK hP 0 rfl rfl 0 (by decide) (hq _ q_326) (fun _ h9 => h9) rfl dX10_init_103 ?_
  refine lv_aload_n hx hb dX10_init_106 rfl (lv_at hl 0 rfl) ?_
  refine va_get (D := (dC, dI)) (ci := 10) (v := .ref a_17) (C := RX10) (T := TX10) (N := 8) hx hb hq i_X10 hown hK hP 0 rfl rfl 1 (by decide) (hq _ q_327) (fun _ h9 => h9) rfl dX10_init_107 ?_
  refine lv_aload_n hx hb dX10_init_110 rfl (lv_at hl 0 rfl) ?_
  refine va_get (D := (dC, dI)) (ci := 10) (v := .ref a_22) (C := RX10) (T := TX10) (N := 8) hx hb hq i_X10 hown hK hP 0 rfl rfl 2 (by decide) (hq _ q_328) (fun _ h9 => h9) rfl dX10_init_111 ?_
  refine va_getN (D := (dC, dI)) (host := "NightfallVillage") (ci := 4) (v := .ref f0_24) (C := RX4) (T := TX4) (N := 7) hx hb hq i_X4 hown hK hP 10 rfl rfl 0 (by decide) (hq _ q_209) (fun _ h9 => h9) rfl dX10_init_114 ?_
  refine lv_aload_n hx hb dX10_init_117 rfl (lv_at hl 0 rfl) ?_
  refine va_get (D := (dC, dI)) (ci := 10) (v := .ref a_44) (C := RX10) (T := TX10) (N := 8) hx hb hq i_X10 hown hK hP 0 rfl rfl 5 (by decide) (hq _ q_331) (fun _ h9 => h9) rfl dX10_init_118 ?_
  have hPc := hP.sub (ws' := [(a_48, .inr (9, [.null, .null, .null, .null, .null, .null, .null, .int 0, .int 0]))]) [14] rfl
  have hKc := hK.sub (tys' := []) [] rfl
  have hDc := hD.sub (ws' := [(a_48, .inr (9, [.null, .null, .null, .null, .null, .null, .null, .int 0, .int 0]))]) [14] (by decide) rfl
  have hFc := va_free (wc := [(a_48, .inr (9, [.null, .null, .null, .null, .null, .null, .null, .int 0, .int 0]))]) hD hS hA [14] rfl
  refine va_callv (va_runI (As := [.ref a_1, .ref a_17, .ref f0_24, .ref a_44]) (rest := [.ref a_48, .ref h0]) ⟨hx, hb, hml, hown, hq⟩ (c_Worlds_init l hst tE adK adV dC dI a_48 a_1 a_17 f0_24 a_44 H.size) (tcI 4 hq q_295 q_11 q_293 q_294 rfl rfl rfl (by decide +kernel) ⟨Nat.le_of_ble_eq_true rfl, Nat.le_of_ble_eq_true rfl⟩) (pre.S (pre.of hPc hDc hKc ham hS hFc)) rfl rfl hl.1 rfl (lv_room (Nat.le_of_ble_eq_true rfl)) dX10_init_121 ⟨Nat.le_of_ble_eq_true rfl, Nat.le_of_ble_eq_true rfl⟩) hS (fun q _ h => hFc q h) hFc (fun u t H1 locs ht hvm hw hB hz1 hk1 hS => ?_)
  obtain ⟨hP, hD⟩ := va_join (wr := [(h0, .inr (10, [.ref a_1, .ref a_17, .ref a_22, .ref a_32, .ref a_42, .ref a_44, .ref a_46, .null])), (a_1, .inr (7, [.ref q1_3, .ref q2_4, .ref q3_5, .ref q4_6, .ref q5_7, .ref q6_8, .ref q7_9, .int 0])), (q1_3, .inl (k1_10, 8, .inl (fun _ => 0))), (q2_4, .inl (k2_11, 8, .inl (fun _ => 0))), (q3_5, .inl (k3_12, 8, .inl (fun _ => 0))), (q4_6, .inl (k4_13, 8, .inl (fun _ => 0))), (q5_7, .inl (k5_14, 8, .inl (fun _ => 0))), (q6_8, .inl (k6_15, 8, .inl (fun _ => 0))), (q7_9, .inl (k7_16, 8, .inl (fun _ => 0))), (a_17, .inr (2, [.ref q1_19, .ref q2_20, .ref q3_21, .int 0, .int (-1), .int (-1)])), (a_22, .inr (4, [.ref f0_24, .ref n0_25, .ref y0_26, .int 0, .int 0, .int 0, .int 45])), (f0_24, .inr (3, [.ref a_1, .ref a_17, .ref q1_27, .ref q2_28, .ref q3_29, .ref q4_30, .ref q5_31, .int 0, .int 0])), (a_32, .inr (4, [.ref f0_34, .ref n0_35, .ref y0_36, .int 0, .int 0, .int 0, .int 45])), (f0_34, .inr (3, [.ref a_1, .ref a_17, .ref q1_37, .ref q2_38, .ref q3_39, .ref q4_40, .ref q5_41, .int 0, .int 0]))]) (w1 := []) (wc := [(a_48, .inr (9, [.null, .null, .null, .null, .null, .null, .null, .int 0, .int 0]))]) hP hD [14] [0, 1, 2, 3, 4, 5, 6, 7, 8, 9, 10, 11, 12, 13] rfl rfl (by decide) (by decide) hk1 hFc (fun k q h => by simp at h) ⟨fun i j p q h => by simp at h, fun k q h => by simp at h⟩
  generalize H1 = H at hP hS ⊢
  have hP : va_P (dC, dI) cls [(h0, .inr (10, [.ref a_1, .ref a_17, .ref a_22, .ref a_32, .ref a_42, .ref a_44, .ref a_46, .null])), (a_1, .inr (7, [.ref q1_3, .ref q2_4, .ref q3_5, .ref q4_6, .ref q5_7, .ref q6_8, .ref q7_9, .int 0])), (q1_3, .inl (k1_10, 8, .inl (fun _ => 0))), (q2_4, .inl (k2_11, 8, .inl (fun _ => 0))), (q3_5, .inl (k3_12, 8, .inl (fun _ => 0))), (q4_6, .inl (k4_13, 8, .inl (fun _ => 0))), (q5_7, .inl (k5_14, 8, .inl (fun _ => 0))), (q6_8, .inl (k6_15, 8, .inl (fun _ => 0))), (q7_9, .inl (k7_16, 8, .inl (fun _ => 0))), (a_17, .inr (2, [.ref q1_19, .ref q2_20, .ref q3_21, .int 0, .int (-1), .int (-1)])), (a_22, .inr (4, [.ref f0_24, .ref n0_25, .ref y0_26, .int 0, .int 0, .int 0, .int 45])), (f0_24, .inr (3, [.ref a_1, .ref a_17, .ref q1_27, .ref q2_28, .ref q3_29, .ref q4_30, .ref q5_31, .int 0, .int 0])), (a_32, .inr (4, [.ref f0_34, .ref n0_35, .ref y0_36, .int 0, .int 0, .int 0, .int 45])), (f0_34, .inr (3, [.ref a_1, .ref a_17, .ref q1_37, .ref q2_38, .ref q3_39, .ref q4_40, .ref q5_41, .int 0, .int 0]))] H := hP
  have hD : va_D A [(h0, .inr (10, [.ref a_1, .ref a_17, .ref a_22, .ref a_32, .ref a_42, .ref a_44, .ref a_46, .null])), (a_1, .inr (7, [.ref q1_3, .ref q2_4, .ref q3_5, .ref q4_6, .ref q5_7, .ref q6_8, .ref q7_9, .int 0])), (q1_3, .inl (k1_10, 8, .inl (fun _ => 0))), (q2_4, .inl (k2_11, 8, .inl (fun _ => 0))), (q3_5, .inl (k3_12, 8, .inl (fun _ => 0))), (q4_6, .inl (k4_13, 8, .inl (fun _ => 0))), (q5_7, .inl (k5_14, 8, .inl (fun _ => 0))), (q6_8, .inl (k6_15, 8, .inl (fun _ => 0))), (q7_9, .inl (k7_16, 8, .inl (fun _ => 0))), (a_17, .inr (2, [.ref q1_19, .ref q2_20, .ref q3_21, .int 0, .int (-1), .int (-1)])), (a_22, .inr (4, [.ref f0_24, .ref n0_25, .ref y0_26, .int 0, .int 0, .int 0, .int 45])), (f0_24, .inr (3, [.ref a_1, .ref a_17, .ref q1_27, .ref q2_28, .ref q3_29, .ref q4_30, .ref q5_31, .int 0, .int 0])), (a_32, .inr (4, [.ref f0_34, .ref n0_35, .ref y0_36, .int 0, .int 0, .int 0, .int 45])), (f0_34, .inr (3, [.ref a_1, .ref a_17, .ref q1_37, .ref q2_38, .ref q3_39, .ref q4_40, .ref q5_41, .int 0, .int 0]))] := hD
  have hK : va_K (dC, dI) cls [(k1_10, .char), (k2_11, .char), (k3_12, .int), (k4_13, .boolean), (k5_14, .boolean), (k6_15, .boolean), (k7_16, .int)] s := hK
  refine W.widen (k := 70) (n := 4775) (Nat.le_of_ble_eq_true rfl) (Nat.le_of_ble_eq_true rfl) ?_
  refine va_putF (D := (dC, dI)) (ci := 10) (v := .ref a_48) (ty := (.object "NightfallVillage$Worlds")) (C := RX10) (T := TX10) (N := 8) hx hb hq i_X10 tyX10 tyX10_ok nmX10 hown hK hP hD hS 0 rfl rfl 7 (by decide) (hq _ q_333) (fun _ h9 => h9) rfl hin rfl (by decide +kernel) rfl rfl (Nat.le_of_ble_eq_true rfl) dX10_init_124 (fun H locs hP hD hS => ?_)
  have hP : va_P (dC, dI) cls [(h0, .inr (10, [.ref a_1, .ref a_17, .ref a_22, .ref a_32, .ref a_42, .ref a_44, .ref a_46, .ref a_48])), (a_1, .inr (7, [.ref q1_3, .ref q2_4, .ref q3_5, .ref q4_6, .ref q5_7, .ref q6_8, .ref q7_9, .int 0])), (q1_3, .inl (k1_10, 8, .inl (fun _ => 0))), (q2_4, .inl (k2_11, 8, .inl (fun _ => 0))), (q3_5, .inl (k3_12, 8, .inl (fun _ => 0))), (q4_6, .inl (k4_13, 8, .inl (fun _ => 0))), (q5_7, .inl (k5_14, 8, .inl (fun _ => 0))), (q6_8, .inl (k6_15, 8, .inl (fun _ => 0))), (q7_9, .inl (k7_16, 8, .inl (fun _ => 0))), (a_17, .inr (2, [.ref q1_19, .ref q2_20, .ref q3_21, .int 0, .int (-1), .int (-1)])), (a_22, .inr (4, [.ref f0_24, .ref n0_25, .ref y0_26, .int 0, .int 0, .int 0, .int 45])), (f0_24, .inr (3, [.ref a_1, .ref a_17, .ref q1_27, .ref q2_28, .ref q3_29, .ref q4_30, .ref q5_31, .int 0, .int 0])), (a_32, .inr (4, [.ref f0_34, .ref n0_35, .ref y0_36, .int 0, .int 0, .int 0, .int 45])), (f0_34, .inr (3, [.ref a_1, .ref a_17, .ref q1_37, .ref q2_38, .ref q3_39, .ref q4_40, .ref q5_41, .int 0, .int 0]))] H := hP
  have hD : va_D A [(h0, .inr (10, [.ref a_1, .ref a_17, .ref a_22, .ref a_32, .ref a_42, .ref a_44, .ref a_46, .ref a_48])), (a_1, .inr (7, [.ref q1_3, .ref q2_4, .ref q3_5, .ref q4_6, .ref q5_7, .ref q6_8, .ref q7_9, .int 0])), (q1_3, .inl (k1_10, 8, .inl (fun _ => 0))), (q2_4, .inl (k2_11, 8, .inl (fun _ => 0))), (q3_5, .inl (k3_12, 8, .inl (fun _ => 0))), (q4_6, .inl (k4_13, 8, .inl (fun _ => 0))), (q5_7, .inl (k5_14, 8, .inl (fun _ => 0))), (q6_8, .inl (k6_15, 8, .inl (fun _ => 0))), (q7_9, .inl (k7_16, 8, .inl (fun _ => 0))), (a_17, .inr (2, [.ref q1_19, .ref q2_20, .ref q3_21, .int 0, .int (-1), .int (-1)])), (a_22, .inr (4, [.ref f0_24, .ref n0_25, .ref y0_26, .int 0, .int 0, .int 0, .int 45])), (f0_24, .inr (3, [.ref a_1, .ref a_17, .ref q1_27, .ref q2_28, .ref q3_29, .ref q4_30, .ref q5_31, .int 0, .int 0])), (a_32, .inr (4, [.ref f0_34, .ref n0_35, .ref y0_36, .int 0, .int 0, .int 0, .int 45])), (f0_34, .inr (3, [.ref a_1, .ref a_17, .ref q1_37, .ref q2_38, .ref q3_39, .ref q4_40, .ref q5_41, .int 0, .int 0]))] := hD
  refine W.widen (k := 70) (n := 4775) (Nat.le_of_ble_eq_true rfl) (Nat.le_of_ble_eq_true rfl) ?_
  have hP9 := hP.sub (ws' := [(h0, .inr (10, [.ref a_1, .ref a_17, .ref a_22, .ref a_32, .ref a_42, .ref a_44, .ref a_46, .ref a_48])), (a_1, .inr (7, [.ref q1_3, .ref q2_4, .ref q3_5, .ref q4_6, .ref q5_7, .ref q6_8, .ref q7_9, .int 0])), (q1_3, .inl (k1_10, 8, .inl (fun _ => 0))), (q2_4, .inl (k2_11, 8, .inl (fun _ => 0))), (q3_5, .inl (k3_12, 8, .inl (fun _ => 0))), (q4_6, .inl (k4_13, 8, .inl (fun _ => 0))), (q5_7, .inl (k5_14, 8, .inl (fun _ => 0))), (q6_8, .inl (k6_15, 8, .inl (fun _ => 0))), (q7_9, .inl (k7_16, 8, .inl (fun _ => 0))), (a_17, .inr (2, [.ref q1_19, .ref q2_20, .ref q3_21, .int 0, .int (-1), .int (-1)])), (a_22, .inr (4, [.ref f0_24, .ref n0_25, .ref y0_26, .int 0, .int 0, .int 0, .int 45])), (f0_24, .inr (3, [.ref a_1, .ref a_17, .ref q1_27, .ref q2_28, .ref q3_29, .ref q4_30, .ref q5_31, .int 0, .int 0]))]) [0, 1, 2, 3, 4, 5, 6, 7, 8, 9, 10, 11] rfl
  have hD9 := hD.sub (ws' := [(h0, .inr (10, [.ref a_1, .ref a_17, .ref a_22, .ref a_32, .ref a_42, .ref a_44, .ref a_46, .ref a_48])), (a_1, .inr (7, [.ref q1_3, .ref q2_4, .ref q3_5, .ref q4_6, .ref q5_7, .ref q6_8, .ref q7_9, .int 0])), (q1_3, .inl (k1_10, 8, .inl (fun _ => 0))), (q2_4, .inl (k2_11, 8, .inl (fun _ => 0))), (q3_5, .inl (k3_12, 8, .inl (fun _ => 0))), (q4_6, .inl (k4_13, 8, .inl (fun _ => 0))), (q5_7, .inl (k5_14, 8, .inl (fun _ => 0))), (q6_8, .inl (k6_15, 8, .inl (fun _ => 0))), (q7_9, .inl (k7_16, 8, .inl (fun _ => 0))), (a_17, .inr (2, [.ref q1_19, .ref q2_20, .ref q3_21, .int 0, .int (-1), .int (-1)])), (a_22, .inr (4, [.ref f0_24, .ref n0_25, .ref y0_26, .int 0, .int 0, .int 0, .int 45])), (f0_24, .inr (3, [.ref a_1, .ref a_17, .ref q1_27, .ref q2_28, .ref q3_29, .ref q4_30, .ref q5_31, .int 0, .int 0]))]) [0, 1, 2, 3, 4, 5, 6, 7, 8, 9, 10, 11] (by decide) rfl
  have hK9 := hK.sub (tys' := [(k1_10, .char), (k2_11, .char), (k3_12, .int), (k4_13, .boolean), (k5_14, .boolean), (k6_15, .boolean), (k7_16, .int)]) [0, 1, 2, 3, 4, 5, 6] rfl
  exact W.vret hx hb hr (fun t ht hW => ⟨⟨(), rfl, trivial, ⟨a_1, a_17, a_22, a_32, a_42, a_44, a_46, a_48, q1_3, q2_4, q3_5, q4_6, q5_7, q6_8, q7_9, k1_10, k2_11, k3_12, k4_13, k5_14, k6_15, k7_16, q1_19, q2_20, q3_21, f0_24, n0_25, y0_26, q1_27, q2_28, q3_29, q4_30, q5_31, by rw [ht]; exact hP9, va_K.moved hW.alike hK9, hD9⟩⟩, hS.F ht⟩) hS.2.2 dX10_init_127
