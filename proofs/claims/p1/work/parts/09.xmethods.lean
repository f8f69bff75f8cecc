/-! ===== what a role may be ===== -/
def okS (c : Int32) : Prop := c = 118 ∨ c = 119 ∨ c = 108
def okA (c : Int32) : Prop := c = 45 ∨ c = 98 ∨ c = 114 ∨ c = 100 ∨ c = 112 ∨ c = 115 ∨ c = 113 ∨ c = 107
def okR (c d w : Int32) : Prop := okS c ∧ okA d ∧ ¬ w < 1 ∧ ¬ 2 < w
def okL (c : Int32) : Prop := okS c ∨ c = 42
def inB (c : Int32) : Prop := ¬ c < 0 ∧ ¬ 255 < c
theorem okS_in {c : Int32} (h : okS c) : inB c := by
  rcases h with h | h | h <;> (subst h; unfold inB; decide)
theorem okA_in {c : Int32} (h : okA c) : inB c := by
  rcases h with h | h | h | h | h | h | h | h <;> (subst h; unfold inB; decide)
theorem by_eq {b c : Int32} (hb : b.toInt8.toInt32 = b) (h2 : b &&& 255 = b) (h : inB c) (e : b = c.toInt8.toInt32) : c = b := by
  obtain ⟨n, hn, rfl⟩ := nI_of2 (M := 255) (n := 255) (by decide) h.1 (Int32.not_lt.mp h.2)
  have h3 := (sc_eq hb (n := n) (by omega)).mp e
  rw [h2] at h3
  exact h3.symm
abbrev cX7_has : ByteArray := prog_9_method_2_code
def yX7_has : MethodName := ⟨RX7, "has", "(I)Z"⟩
theorem dX7_has_0 : decode cX7_has 0 = .ok (.iload_n 1, 1) := by decide +kernel
theorem dX7_has_1 : decode cX7_has 1 = .ok (.ifCond .lt 15, 3) := by decide +kernel
theorem dX7_has_16 : decode cX7_has 16 = .ok (.iconst 0, 1) := by decide +kernel
theorem dX7_has_17 : decode cX7_has 17 = .ok (.ireturn, 1) := by decide +kernel
theorem dX7_has_4 : decode cX7_has 4 = .ok (.iload_n 1, 1) := by decide +kernel
theorem dX7_has_5 : decode cX7_has 5 = .ok (.aload_n 0, 1) := by decide +kernel
theorem dX7_has_6 : decode cX7_has 6 = .ok (.getfield 35, 3) := by decide +kernel
theorem q_60 : (Cond.fieldLink "NightfallVillage$Roles" 35 "NightfallVillage$Roles" "count" "I") ∈ tw := tw_in (i := 60) (by decide +kernel) (by decide +kernel)
theorem dX7_has_9 : decode cX7_has 9 = .ok (.if_icmp .ge 7, 3) := by decide +kernel
set_option maxHeartbeats 4000000 in
set_option maxRecDepth 100000 in
theorem c_Roles_has (l : Launch) (hst : l.stackTraces = false) (tE : Nat) (adK adV : Nat → Nat) (dC : Nat → ClassId) (dI : Nat → Nat → Nat) (r0 : Nat) (a1 : Nat) (a2 : Nat) (a3 : Nat) (a4 : Nat) (a5 : Nat) (a6 : Nat) (a7 : Nat) (p1 : Int32) (sz : Nat) : Met l yX7_has (Cond.code yX7_has cX7_has 2 (some .boolean) :: tw) ({ frames := 0, cells := 0, slots := 0, locals := 0 }) (va_Pc [.ref r0, .int p1] (preR tE adK adV (dC, dI) [(r0, .inr (7, [.ref a1, .ref a2, .ref a3, .ref a4, .ref a5, .ref a6, .ref a7, .int 0]))] [] sz)) (va_Qi (fun (r : Int32) (_ : Unit) => r = 0) (fun (_ : Unit) (_ : State) => True) (fun q : Nat => sz ≤ q)) 0 0 (fun q : Nat => sz ≤ q) := by
  refine Met.ofW (cc := cX7_has) (maxL := 2) (ret := (some .boolean)) (by decide) rfl ?_
  intro p e s m args below meth c s₁ B hml hv
  obtain ⟨rfl, hsz, hP, hK, ham⟩ := hv
  have hx := B.exec
  have hb := B.bytes
  have hr := B.returns
  have hts := atoms_spec B.pre
  have hq : ∀ w ∈ tw, w.before _ s = true := fun w h => hts w (List.mem_cons_of_mem _ h)
  have hown : s.vm.findClass RX7 = some m.cls := findClass_of_methodNamed B.named
  have hlocks := B.notSynchronized
  subst hsz
  generalize hAe : (fun q : Nat => s.heap.size ≤ q) = A at ham ⊢
  have hA : ∀ q : Nat, s.heap.size ≤ q → A q := fun q h => by rw [← hAe]; exact h
  have hS : va_S A s.heap s.heap [] := va_S.rf
  have hP : va_P (dC, dI) cls [(r0, .inr (7, [.ref a1, .ref a2, .ref a3, .ref a4, .ref a5, .ref a6, .ref a7, .int 0]))] s.heap := hP
  have hl := lv_entry ([.ref r0, .int p1]) (n := 2) (Nat.le_of_ble_eq_true rfl)
  rw [lg_entry_eq]
  generalize (lg_sl ([.ref r0, .int p1]) ++ List.replicate (2 - (lg_sl ([.ref r0, .int p1])).length) Slot.unset).toArray = ls at hl ⊢
  have hl : lv_has ls 2 [(0, .ref r0), (1, .int p1)] := hl
  refine lv_iload_n hx hb dX7_has_0 rfl (lv_at hl 1 rfl) ?_
  refine lv_if_lt (tgt := 16) hx hb dX7_has_1 (by decide) (fun c_1 => ?_) (fun c_1 => ?_)
  · refine lv_iconst (v := 0) hx hb dX7_has_16 (by decide) ?_
    refine W.widen (k := 0) (n := 0) (Nat.le_of_ble_eq_true rfl) (Nat.le_of_ble_eq_true rfl) ?_
    exact W.zret (v := 0) hx hb hr (by decide) (fun t ht hW => ⟨⟨0, (), rfl, rfl, trivial⟩, hS.F ht⟩) hS.2.2 dX7_has_17
  · refine lv_iload_n hx hb dX7_has_4 rfl (lv_at hl 1 rfl) ?_
    refine lv_aload_n hx hb dX7_has_5 rfl (lv_at hl 0 rfl) ?_
    refine va_get (D := (dC, dI)) (ci := 7) (v := .int 0) (C := RX7) (T := TX7) (N := 8) hx hb hq i_X7 hown hK hP 0 rfl rfl 7 (by decide) (hq _ q_60) (fun _ h9 => h9) rfl dX7_has_6 ?_
    refine lv_icmp_ge (tgt := 16) hx hb dX7_has_9 (by decide) (fun c_2 => ?_) (fun c_2 => ?_)
    · refine lv_iconst (v := 0) hx hb dX7_has_16 (by decide) ?_
      refine W.widen (k := 0) (n := 0) (Nat.le_of_ble_eq_true rfl) (Nat.le_of_ble_eq_true rfl) ?_
      exact W.zret (v := 0) hx hb hr (by decide) (fun t ht hW => ⟨⟨0, (), rfl, rfl, trivial⟩, hS.F ht⟩) hS.2.2 dX7_has_17
    · exact absurd (Int32.not_lt.mp c_1) c_2
abbrev cX2_has : ByteArray := prog_4_method_2_code
def yX2_has : MethodName := ⟨RX2, "has", "(I)Z"⟩
theorem dX2_has_0 : decode cX2_has 0 = .ok (.iload_n 1, 1) := by decide +kernel
theorem dX2_has_1 : decode cX2_has 1 = .ok (.ifCond .lt 15, 3) := by decide +kernel
theorem dX2_has_16 : decode cX2_has 16 = .ok (.iconst 0, 1) := by decide +kernel
theorem dX2_has_17 : decode cX2_has 17 = .ok (.ireturn, 1) := by decide +kernel
theorem dX2_has_4 : decode cX2_has 4 = .ok (.iload_n 1, 1) := by decide +kernel
theorem dX2_has_5 : decode cX2_has 5 = .ok (.aload_n 0, 1) := by decide +kernel
theorem dX2_has_6 : decode cX2_has 6 = .ok (.getfield 28, 3) := by decide +kernel
theorem q_92 : (Cond.fieldLink "NightfallVillage$Deal" 28 "NightfallVillage$Deal" "seats" "I") ∈ tw := tw_in (i := 92) (by decide +kernel) (by decide +kernel)
theorem dX2_has_9 : decode cX2_has 9 = .ok (.if_icmp .ge 7, 3) := by decide +kernel
set_option maxHeartbeats 4000000 in
set_option maxRecDepth 100000 in
theorem c_Deal_has (l : Launch) (hst : l.stackTraces = false) (tE : Nat) (adK adV : Nat → Nat) (dC : Nat → ClassId) (dI : Nat → Nat → Nat) (d0 : Nat) (b1 : Nat) (b2 : Nat) (b3 : Nat) (p1 : Int32) (sz : Nat) : Met l yX2_has (Cond.code yX2_has cX2_has 2 (some .boolean) :: tw) ({ frames := 0, cells := 0, slots := 0, locals := 0 }) (va_Pc [.ref d0, .int p1] (preR tE adK adV (dC, dI) [(d0, .inr (2, [.ref b1, .ref b2, .ref b3, .int 0, .int (-1), .int (-1)]))] [] sz)) (va_Qi (fun (r : Int32) (_ : Unit) => r = 0) (fun (_ : Unit) (_ : State) => True) (fun q : Nat => sz ≤ q)) 0 0 (fun q : Nat => sz ≤ q) := by
  refine Met.ofW (cc := cX2_has) (maxL := 2) (ret := (some .boolean)) (by decide) rfl ?_
  intro p e s m args below meth c s₁ B hml hv
  obtain ⟨rfl, hsz, hP, hK, ham⟩ := hv
  have hx := B.exec
  have hb := B.bytes
  have hr := B.returns
  have hts := atoms_spec B.pre
  have hq : ∀ w ∈ tw, w.before _ s = true := fun w h => hts w (List.mem_cons_of_mem _ h)
  have hown : s.vm.findClass RX2 = some m.cls := findClass_of_methodNamed B.named
  have hlocks := B.notSynchronized
  subst hsz
  generalize hAe : (fun q : Nat => s.heap.size ≤ q) = A at ham ⊢
  have hA : ∀ q : Nat, s.heap.size ≤ q → A q := fun q h => by rw [← hAe]; exact h
  have hS : va_S A s.heap s.heap [] := va_S.rf
  have hP : va_P (dC, dI) cls [(d0, .inr (2, [.ref b1, .ref b2, .ref b3, .int 0, .int (-1), .int (-1)]))] s.heap := hP
  have hl := lv_entry ([.ref d0, .int p1]) (n := 2) (Nat.le_of_ble_eq_true rfl)
  rw [lg_entry_eq]
  generalize (lg_sl ([.ref d0, .int p1]) ++ List.replicate (2 - (lg_sl ([.ref d0, .int p1])).length) Slot.unset).toArray = ls at hl ⊢
  have hl : lv_has ls 2 [(0, .ref d0), (1, .int p1)] := hl
  refine lv_iload_n hx hb dX2_has_0 rfl (lv_at hl 1 rfl) ?_
  refine lv_if_lt (tgt := 16) hx hb dX2_has_1 (by decide) (fun c_1 => ?_) (fun c_1 => ?_)
  · refine lv_iconst (v := 0) hx hb dX2_has_16 (by decide) ?_
    refine W.widen (k := 0) (n := 0) (Nat.le_of_ble_eq_true rfl) (Nat.le_of_ble_eq_true rfl) ?_
    exact W.zret (v := 0) hx hb hr (by decide) (fun t ht hW => ⟨⟨0, (), rfl, rfl, trivial⟩, hS.F ht⟩) hS.2.2 dX2_has_17
  · refine lv_iload_n hx hb dX2_has_4 rfl (lv_at hl 1 rfl) ?_
    refine lv_aload_n hx hb dX2_has_5 rfl (lv_at hl 0 rfl) ?_
    refine va_get (D := (dC, dI)) (ci := 2) (v := .int 0) (C := RX2) (T := TX2) (N := 6) hx hb hq i_X2 hown hK hP 0 rfl rfl 3 (by decide) (hq _ q_92) (fun _ h9 => h9) rfl dX2_has_6 ?_
    refine lv_icmp_ge (tgt := 16) hx hb dX2_has_9 (by decide) (fun c_2 => ?_) (fun c_2 => ?_)
    · refine lv_iconst (v := 0) hx hb dX2_has_16 (by decide) ?_
      refine W.widen (k := 0) (n := 0) (Nat.le_of_ble_eq_true rfl) (Nat.le_of_ble_eq_true rfl) ?_
      exact W.zret (v := 0) hx hb hr (by decide) (fun t ht hW => ⟨⟨0, (), rfl, rfl, trivial⟩, hS.F ht⟩) hS.2.2 dX2_has_17
    · exact absurd (Int32.not_lt.mp c_1) c_2
abbrev cX4_isRunning : ByteArray := prog_6_method_4_code
def yX4_isRunning : MethodName := ⟨RX4, "isRunning", "()Z"⟩
theorem dX4_isRunning_0 : decode cX4_isRunning 0 = .ok (.aload_n 0, 1) := by decide +kernel
theorem dX4_isRunning_1 : decode cX4_isRunning 1 = .ok (.getfield 48, 3) := by decide +kernel
theorem q_214 : (Cond.fieldLink "NightfallVillage$Game" 48 "NightfallVillage$Game" "hasBegun" "Z") ∈ tw := tw_in (i := 214) (by decide +kernel) (by decide +kernel)
theorem dX4_isRunning_4 : decode cX4_isRunning 4 = .ok (.ifCond .eq 16, 3) := by decide +kernel
theorem dX4_isRunning_20 : decode cX4_isRunning 20 = .ok (.iconst 0, 1) := by decide +kernel
theorem dX4_isRunning_21 : decode cX4_isRunning 21 = .ok (.ireturn, 1) := by decide +kernel
set_option maxHeartbeats 4000000 in
set_option maxRecDepth 100000 in
theorem c_isRunning (l : Launch) (hst : l.stackTraces = false) (tE : Nat) (adK adV : Nat → Nat) (dC : Nat → ClassId) (dI : Nat → Nat → Nat) (g0 : Nat) (f0 : Nat) (n0 : Nat) (y0 : Nat) (sz : Nat) : Met l yX4_isRunning (Cond.code yX4_isRunning cX4_isRunning 1 (some .boolean) :: tw) ({ frames := 0, cells := 0, slots := 0, locals := 0 }) (va_Pc [.ref g0] (preR tE adK adV (dC, dI) [(g0, .inr (4, [.ref f0, .ref n0, .ref y0, .int 0, .int 0, .int 0, .int 45]))] [] sz)) (va_Qi (fun (r : Int32) (_ : Unit) => r = 0) (fun (_ : Unit) (_ : State) => True) (fun q : Nat => sz ≤ q)) 0 0 (fun q : Nat => sz ≤ q) := by
  refine Met.ofW (cc := cX4_isRunning) (maxL := 1) (ret := (some .boolean)) (by decide) rfl ?_
  intro p e s m args below meth c s₁ B hml hv
  obtain ⟨rfl, hsz, hP, hK, ham⟩ := hv
  have hx := B.exec
  have hb := B.bytes
  have hr := B.returns
  have hts := atoms_spec B.pre
  have hq : ∀ w ∈ tw, w.before _ s = true := fun w h => hts w (List.mem_cons_of_mem _ h)
  have hown : s.vm.findClass RX4 = some m.cls := findClass_of_methodNamed B.named
  have hlocks := B.notSynchronized
  subst hsz
  generalize hAe : (fun q : Nat => s.heap.size ≤ q) = A at ham ⊢
  have hA : ∀ q : Nat, s.heap.size ≤ q → A q := fun q h => by rw [← hAe]; exact h
  have hS : va_S A s.heap s.heap [] := va_S.rf
  have hP : va_P (dC, dI) cls [(g0, .inr (4, [.ref f0, .ref n0, .ref y0, .int 0, .int 0, .int 0, .int 45]))] s.heap := hP
  have hl := lv_entry ([.ref g0]) (n := 1) (Nat.le_of_ble_eq_true rfl)
  rw [lg_entry_eq]
  generalize (lg_sl ([.ref g0]) ++ List.replicate (1 - (lg_sl ([.ref g0])).length) Slot.unset).toArray = ls at hl ⊢
  have hl : lv_has ls 1 [(0, .ref g0)] := hl
  refine lv_aload_n hx hb dX4_isRunning_0 rfl (lv_at hl 0 rfl) ?_
  refine va_get (D := (dC, dI)) (ci := 4) (v := .int 0) (C := RX4) (T := TX4) (N := 7) hx hb hq i_X4 hown hK hP 0 rfl rfl 3 (by decide) (hq _ q_214) (fun _ h9 => h9) rfl dX4_isRunning_1 ?_
  refine lv_if_eq (tgt := 20) hx hb dX4_isRunning_4 (by decide) (fun c_1 => ?_) (fun c_1 => ?_)
  · refine lv_iconst (v := 0) hx hb dX4_isRunning_20 (by decide) ?_
    refine W.widen (k := 0) (n := 0) (Nat.le_of_ble_eq_true rfl) (Nat.le_of_ble_eq_true rfl) ?_
    exact W.zret (v := 0) hx hb hr (by decide) (fun t ht hW => ⟨⟨0, (), rfl, rfl, trivial⟩, hS.F ht⟩) hS.2.2 dX4_isRunning_21
  · exact absurd c_1 (by decide)
abbrev cX10_requireRole : ByteArray := prog_1_method_43_code
def yX10_requireRole : MethodName := ⟨RX10, "requireRole", "(I)V"⟩
theorem dX10_requireRole_0 : decode cX10_requireRole 0 = .ok (.aload_n 0, 1) := by decide +kernel
theorem dX10_requireRole_1 : decode cX10_requireRole 1 = .ok (.getfield 10, 3) := by decide +kernel
theorem dX10_requireRole_4 : decode cX10_requireRole 4 = .ok (.iload_n 1, 1) := by decide +kernel
theorem dX10_requireRole_5 : decode cX10_requireRole 5 = .ok (.invokevirtual 336, 3) := by decide +kernel
theorem q_467 : (Cond.code yX7_has cX7_has 2 (some .boolean)) ∈ tw := tw_in (i := 467) (by decide +kernel) (by decide +kernel)
theorem q_818 : (Cond.methodLink "NightfallVillage" 336 yX7_has) ∈ tw := tw_in (i := 818) (by decide +kernel) (by decide +kernel)
theorem q_465 : (Cond.instanceMethod yX7_has) ∈ tw := tw_in (i := 465) (by decide +kernel) (by decide +kernel)
theorem q_466 : (Cond.selects "NightfallVillage$Roles" yX7_has yX7_has) ∈ tw := tw_in (i := 466) (by decide +kernel) (by decide +kernel)
theorem dX10_requireRole_8 : decode cX10_requireRole 8 = .ok (.ifCond .ne 14, 3) := by decide +kernel
theorem dX10_requireRole_11 : decode cX10_requireRole 11 = .ok (.new 301, 3) := by decide +kernel
theorem at_X10_IndexOutOfBoundsException_305_301 : ∀ w ∈ vx_atS RX10 305 "java/lang/IndexOutOfBoundsException" ["java/lang/RuntimeException", "java/lang/Exception"], w ∈ tw := fun w hw => thr_in (List.all_eq_true.mp (show (vx_atS RX10 305 "java/lang/IndexOutOfBoundsException" ["java/lang/RuntimeException", "java/lang/Exception"]).all (fun w => decide (w ∈ thr_all)) = true by decide +kernel) w hw)
theorem at_X10_IndexOutOfBoundsException_305_301_g : ∀ w ∈ Cond.classLink RX10 301 "java/lang/IndexOutOfBoundsException" :: Cond.initialized "java/lang/IndexOutOfBoundsException" :: vx_atS RX10 305 "java/lang/IndexOutOfBoundsException" ["java/lang/RuntimeException", "java/lang/Exception"], vx_ot w = true := fun w hw => List.all_eq_true.mp (show (Cond.classLink RX10 301 "java/lang/IndexOutOfBoundsException" :: Cond.initialized "java/lang/IndexOutOfBoundsException" :: vx_atS RX10 305 "java/lang/IndexOutOfBoundsException" ["java/lang/RuntimeException", "java/lang/Exception"]).all vx_ot = true by decide +kernel) w hw
theorem sr_828 : Cond.stringRef "NightfallVillage" 339 "no such role" ∈ tables_1 := List.mem_of_getElem? (i := 828) (by decide +kernel)
theorem q_819 : (Cond.classLink "NightfallVillage" 301 "java/lang/IndexOutOfBoundsException") ∈ tw := tw_in (i := 819) (by decide +kernel) (by decide +kernel)
theorem q_32 : (Cond.initialized "java/lang/IndexOutOfBoundsException") ∈ tw := tw_in (i := 32) (by decide +kernel) (by decide +kernel)
theorem dX10_requireRole_14 : decode cX10_requireRole 14 = .ok (.dup, 1) := by decide +kernel
theorem dX10_requireRole_15 : decode cX10_requireRole 15 = .ok (.ldc_w 339, 3) := by decide +kernel
theorem dX10_requireRole_18 : decode cX10_requireRole 18 = .ok (.invokespecial 305, 3) := by decide +kernel
theorem dX10_requireRole_21 : decode cX10_requireRole 21 = .ok (.athrow, 1) := by decide +kernel
set_option maxHeartbeats 4000000 in
set_option maxRecDepth 100000 in
theorem c_requireRole (l : Launch) (hst : l.stackTraces = false) (tE : Nat) (adK adV : Nat → Nat) (dC : Nat → ClassId) (dI : Nat → Nat → Nat) (h0 : Nat) (r0 : Nat) (d0 : Nat) (g0 : Nat) (g1 : Nat) (y1 : Nat) (s1 : Nat) (l1 : Nat) (w1 : Nat) (a1 : Nat) (a2 : Nat) (a3 : Nat) (a4 : Nat) (a5 : Nat) (a6 : Nat) (a7 : Nat) (p1 : Int32) (sz : Nat) : vx_Met l yX10_requireRole (Cond.code yX10_requireRole cX10_requireRole 2 none :: tw) ({ frames := 6, cells := 1, slots := 6, locals := 82 }) (va_Pc [.ref h0, .int p1] (preR tE adK adV (dC, dI) [(h0, .inr (10, [.ref r0, .ref d0, .ref g0, .ref g1, .ref y1, .ref s1, .ref l1, .ref w1])), (r0, .inr (7, [.ref a1, .ref a2, .ref a3, .ref a4, .ref a5, .ref a6, .ref a7, .int 0]))] [] sz)) (va_Qv (fun (_ : Unit) => False) (fun (_ : Unit) (_ : State) => True) (fun q : Nat => sz ≤ q)) (vx_X (fun _ : Unit => True) (fun E (_ : Unit) (_ : State) => E = "java/lang/IndexOutOfBoundsException") (fun q : Nat => sz ≤ q)) 1 6 (fun q : Nat => sz ≤ q) := by
  refine vx_ofW (cc := cX10_requireRole) (maxL := 2) (ret := none) (by decide) rfl ?_
  intro p e s m args below meth c s₁ B hml hte hv
  obtain ⟨rfl, hsz, hP, hK, ham⟩ := hv
  have hx := B.exec
  have hb := B.bytes
  have hr := B.returns
  have hts := atoms_spec B.pre
  have hq : ∀ w ∈ tw, w.before _ s = true := fun w h => hts w (List.mem_cons_of_mem _ h)
  have hown : s.vm.findClass RX10 = some m.cls := findClass_of_methodNamed B.named
  have hlocks := B.notSynchronized
  subst hsz
  generalize hAe : (fun q : Nat => s.heap.size ≤ q) = A at ham ⊢
  have hA : ∀ q : Nat, s.heap.size ≤ q → A q := fun q h => by rw [← hAe]; exact h
  have hS : va_S A s.heap s.heap [] := va_S.rf
  have hP : va_P (dC, dI) cls [(h0, .inr (10, [.ref r0, .ref d0, .ref g0, .ref g1, .ref y1, .ref s1, .ref l1, .ref w1])), (r0, .inr (7, [.ref a1, .ref a2, .ref a3, .ref a4, .ref a5, .ref a6, .ref a7, .int 0]))] s.heap := hP
  have hl := lv_entry ([.ref h0, .int p1]) (n := 2) (Nat.le_of_ble_eq_true rfl)
  rw [lg_entry_eq]
  generalize (lg_sl ([.ref h0, .int p1]) ++ List.replicate (2 - (lg_sl ([.ref h0, .int p1])).length) Slot.unset).toArray = ls at hl ⊢
  have hl : lv_has ls 2 [(0, .ref h0), (1, .int p1)] := hl
  refine lv_aload_n hx hb dX10_requireRole_0 rfl (lv_at hl 0 rfl) ?_
  refine va_get (D := (dC, dI)) (ci := 10) (v := .ref r0) (C := RX10) (T := TX10) (N := 8) hx hb hq i_X10 hown hK hP 0 rfl rfl 0 (by decide) (hq _ q_326) (fun _ h9 => h9) rfl dX10_requireRole_1 ?_
  refine lv_iload_n hx hb dX10_requireRole_4 rfl (lv_at hl 1 rfl) ?_
  have hPc := hP.sub (ws' := [(r0, .inr (7, [.ref a1, .ref a2, .ref a3, .ref a4, .ref a5, .ref a6, .ref a7, .int 0]))]) [1] rfl
  have hKc := hK.sub (tys' := []) [] rfl
  refine va_calli (va_runV (As := [.int p1]) (rest := []) ⟨hx, hb, hml, hown, hq⟩ (c_Roles_has l hst tE adK adV dC dI r0 a1 a2 a3 a4 a5 a6 a7 p1 s.heap.size) (tcV 1 hq q_467 q_2 q_818 q_465 q_466 rfl rfl (by decide +kernel) ⟨Nat.le_of_ble_eq_true rfl, Nat.le_of_ble_eq_true rfl⟩) (preR.V (va_recv hK hP (ci := 7) (q0 := 1) rfl rfl) (preR.of hPc hKc ham hS hA)) rfl rfl hl.1 rfl (lv_room (Nat.le_of_ble_eq_true rfl)) dX10_requireRole_5 ⟨Nat.le_of_ble_eq_true rfl, Nat.le_of_ble_eq_true rfl⟩) hS (fun q _ h => hA q (Nat.le_trans hS.1 h)) (fun q h => hA q (Nat.le_trans hS.1 h)) (fun r_1 u t H1 locs ht hvm hw hB hz1 hk1 hS => ?_)
  have hP : va_P (dC, dI) cls [(h0, .inr (10, [.ref r0, .ref d0, .ref g0, .ref g1, .ref y1, .ref s1, .ref l1, .ref w1])), (r0, .inr (7, [.ref a1, .ref a2, .ref a3, .ref a4, .ref a5, .ref a6, .ref a7, .int 0]))] H1 := ro_keep hP hk1
  generalize H1 = H at hP hS ⊢
  refine W.widen (k := 0) (n := 0) (Nat.le_of_ble_eq_true rfl) (Nat.le_of_ble_eq_true rfl) ?_
  have hw : r_1 = 0 := hw
  subst hw
  refine lv_if_ne (tgt := 22) hx hb dX10_requireRole_8 (by decide) (fun c_2 => ?_) (fun c_2 => ?_)
  · exact absurd c_2 (by decide)
  · obtain ⟨sa_3, hsa_3⟩ := ham.2.1 _ _ _ sr_828
    exact vx_throwSW hx hb hst (own := RX10) (cls := "java/lang/IndexOutOfBoundsException") (names := ["java/lang/RuntimeException", "java/lang/Exception"]) hown (by decide) (by decide) (hq _ q_819) (hq _ q_32) hsa_3 (fun w9 h9 => hq _ (at_X10_IndexOutOfBoundsException_305_301 w9 h9)) at_X10_IndexOutOfBoundsException_305_301_g ham.1.1 ham.1.2 hS (hl.1.trans hml.symm) dX10_requireRole_11 dX10_requireRole_14 dX10_requireRole_15 dX10_requireRole_18 dX10_requireRole_21 (fun x9 h9 => (hte x9 h9).elim) (Nat.le_of_ble_eq_true rfl) (Nat.le_of_ble_eq_true rfl) (Nat.le_of_ble_eq_true rfl) (Nat.le_of_ble_eq_true rfl) hlocks (vx_end hS) hS.2.2 (Nat.le_of_ble_eq_true rfl) (Nat.le_of_ble_eq_true rfl)
abbrev cX10_requireSeat : ByteArray := prog_1_method_44_code
def yX10_requireSeat : MethodName := ⟨RX10, "requireSeat", "(I)V"⟩
theorem dX10_requireSeat_0 : decode cX10_requireSeat 0 = .ok (.aload_n 0, 1) := by decide +kernel
theorem dX10_requireSeat_1 : decode cX10_requireSeat 1 = .ok (.getfield 19, 3) := by decide +kernel
theorem dX10_requireSeat_4 : decode cX10_requireSeat 4 = .ok (.iload_n 1, 1) := by decide +kernel
theorem dX10_requireSeat_5 : decode cX10_requireSeat 5 = .ok (.invokevirtual 341, 3) := by decide +kernel
theorem q_368 : (Cond.code yX2_has cX2_has 2 (some .boolean)) ∈ tw := tw_in (i := 368) (by decide +kernel) (by decide +kernel)
theorem q_867 : (Cond.methodLink "NightfallVillage" 341 yX2_has) ∈ tw := tw_in (i := 867) (by decide +kernel) (by decide +kernel)
theorem q_366 : (Cond.instanceMethod yX2_has) ∈ tw := tw_in (i := 366) (by decide +kernel) (by decide +kernel)
theorem q_367 : (Cond.selects "NightfallVillage$Deal" yX2_has yX2_has) ∈ tw := tw_in (i := 367) (by decide +kernel) (by decide +kernel)
theorem dX10_requireSeat_8 : decode cX10_requireSeat 8 = .ok (.ifCond .ne 14, 3) := by decide +kernel
theorem dX10_requireSeat_11 : decode cX10_requireSeat 11 = .ok (.new 301, 3) := by decide +kernel
theorem sr_868 : Cond.stringRef "NightfallVillage" 342 "no such seat" ∈ tables_1 := List.mem_of_getElem? (i := 868) (by decide +kernel)
theorem dX10_requireSeat_14 : decode cX10_requireSeat 14 = .ok (.dup, 1) := by decide +kernel
theorem dX10_requireSeat_15 : decode cX10_requireSeat 15 = .ok (.ldc_w 342, 3) := by decide +kernel
theorem dX10_requireSeat_18 : decode cX10_requireSeat 18 = .ok (.invokespecial 305, 3) := by decide +kernel
theorem dX10_requireSeat_21 : decode cX10_requireSeat 21 = .ok (.athrow, 1) := by decide +kernel
set_option maxHeartbeats 4000000 in
set_option maxRecDepth 100000 in
theorem c_requireSeat (l : Launch) (hst : l.stackTraces = false) (tE : Nat) (adK adV : Nat → Nat) (dC : Nat → ClassId) (dI : Nat → Nat → Nat) (h0 : Nat) (r0 : Nat) (d0 : Nat) (g0 : Nat) (g1 : Nat) (y1 : Nat) (s1 : Nat) (l1 : Nat) (w1 : Nat) (b1 : Nat) (b2 : Nat) (b3 : Nat) (p1 : Int32) (sz : Nat) : vx_Met l yX10_requireSeat (Cond.code yX10_requireSeat cX10_requireSeat 2 none :: tw) ({ frames := 6, cells := 1, slots := 6, locals := 82 }) (va_Pc [.ref h0, .int p1] (preR tE adK adV (dC, dI) [(h0, .inr (10, [.ref r0, .ref d0, .ref g0, .ref g1, .ref y1, .ref s1, .ref l1, .ref w1])), (d0, .inr (2, [.ref b1, .ref b2, .ref b3, .int 0, .int (-1), .int (-1)]))] [] sz)) (va_Qv (fun (_ : Unit) => False) (fun (_ : Unit) (_ : State) => True) (fun q : Nat => sz ≤ q)) (vx_X (fun _ : Unit => True) (fun E (_ : Unit) (_ : State) => E = "java/lang/IndexOutOfBoundsException") (fun q : Nat => sz ≤ q)) 1 6 (fun q : Nat => sz ≤ q) := by
  refine vx_ofW (cc := cX10_requireSeat) (maxL := 2) (ret := none) (by decide) rfl ?_
  intro p e s m args below meth c s₁ B hml hte hv
  obtain ⟨rfl, hsz, hP, hK, ham⟩ := hv
  have hx := B.exec
  have hb := B.bytes
  have hr := B.returns
  have hts := atoms_spec B.pre
  have hq : ∀ w ∈ tw, w.before _ s = true := fun w h => hts w (List.mem_cons_of_mem _ h)
  have hown : s.vm.findClass RX10 = some m.cls := findClass_of_methodNamed B.named
  have hlocks := B.notSynchronized
  subst hsz
  generalize hAe : (fun q : Nat => s.heap.size ≤ q) = A at ham ⊢
  have hA : ∀ q : Nat, s.heap.size ≤ q → A q := fun q h => by rw [← hAe]; exact h
  have hS : va_S A s.heap s.heap [] := va_S.rf
  have hP : va_P (dC, dI) cls [(h0, .inr (10, [.ref r0, .ref d0, .ref g0, .ref g1, .ref y1, .ref s1, .ref l1, .ref w1])), (d0, .inr (2, [.ref b1, .ref b2, .ref b3, .int 0, .int (-1), .int (-1)]))] s.heap := hP
  have hl := lv_entry ([.ref h0, .int p1]) (n := 2) (Nat.le_of_ble_eq_true rfl)
  rw [lg_entry_eq]
  generalize (lg_sl ([.ref h0, .int p1]) ++ List.replicate (2 - (lg_sl ([.ref h0, .int p1])).length) Slot.unset).toArray = ls at hl ⊢
  have hl : lv_has ls 2 [(0, .ref h0), (1, .int p1)] := hl
  refine lv_aload_n hx hb dX10_requireSeat_0 rfl (lv_at hl 0 rfl) ?_
  refine va_get (D := (dC, dI)) (ci := 10) (v := .ref d0) (C := RX10) (T := TX10) (N := 8) hx hb hq i_X10 hown hK hP 0 rfl rfl 1 (by decide) (hq _ q_327) (fun _ h9 => h9) rfl dX10_requireSeat_1 ?_
  refine lv_iload_n hx hb dX10_requireSeat_4 rfl (lv_at hl 1 rfl) ?_
  have hPc := hP.sub (ws' := [(d0, .inr (2, [.ref b1, .ref b2, .ref b3, .int 0, .int (-1), .int (-1)]))]) [1] rfl
  have hKc := hK.sub (tys' := []) [] rfl
  refine va_calli (va_runV (As := [.int p1]) (rest := []) ⟨hx, hb, hml, hown, hq⟩ (c_Deal_has l hst tE adK adV dC dI d0 b1 b2 b3 p1 s.heap.size) (tcV 1 hq q_368 q_3 q_867 q_366 q_367 rfl rfl (by decide +kernel) ⟨Nat.le_of_ble_eq_true rfl, Nat.le_of_ble_eq_true rfl⟩) (preR.V (va_recv hK hP (ci := 2) (q0 := 1) rfl rfl) (preR.of hPc hKc ham hS hA)) rfl rfl hl.1 rfl (lv_room (Nat.le_of_ble_eq_true rfl)) dX10_requireSeat_5 ⟨Nat.le_of_ble_eq_true rfl, Nat.le_of_ble_eq_true rfl⟩) hS (fun q _ h => hA q (Nat.le_trans hS.1 h)) (fun q h => hA q (Nat.le_trans hS.1 h)) (fun r_1 u t H1 locs ht hvm hw hB hz1 hk1 hS => ?_)
  have hP : va_P (dC, dI) cls [(h0, .inr (10, [.ref r0, .ref d0, .ref g0, .ref g1, .ref y1, .ref s1, .ref l1, .ref w1])), (d0, .inr (2, [.ref b1, .ref b2, .ref b3, .int 0, .int (-1), .int (-1)]))] H1 := ro_keep hP hk1
  generalize H1 = H at hP hS ⊢
  refine W.widen (k := 0) (n := 0) (Nat.le_of_ble_eq_true rfl) (Nat.le_of_ble_eq_true rfl) ?_
  have hw : r_1 = 0 := hw
  subst hw
  refine lv_if_ne (tgt := 22) hx hb dX10_requireSeat_8 (by decide) (fun c_2 => ?_) (fun c_2 => ?_)
  · exact absurd c_2 (by decide)
  · obtain ⟨sa_3, hsa_3⟩ := ham.2.1 _ _ _ sr_868
    exact vx_throwSW hx hb hst (own := RX10) (cls := "java/lang/IndexOutOfBoundsException") (names := ["java/lang/RuntimeException", "java/lang/Exception"]) hown (by decide) (by decide) (hq _ q_819) (hq _ q_32) hsa_3 (fun w9 h9 => hq _ (at_X10_IndexOutOfBoundsException_305_301 w9 h9)) at_X10_IndexOutOfBoundsException_305_301_g ham.1.1 ham.1.2 hS (hl.1.trans hml.symm) dX10_requireSeat_11 dX10_requireSeat_14 dX10_requireSeat_15 dX10_requireSeat_18 dX10_requireSeat_21 (fun x9 h9 => (hte x9 h9).elim) (Nat.le_of_ble_eq_true rfl) (Nat.le_of_ble_eq_true rfl) (Nat.le_of_ble_eq_true rfl) (Nat.le_of_ble_eq_true rfl) hlocks (vx_end hS) hS.2.2 (Nat.le_of_ble_eq_true rfl) (Nat.le_of_ble_eq_true rfl)
abbrev cX10_requireTwoSeats : ByteArray := prog_1_method_45_code
def yX10_requireTwoSeats : MethodName := ⟨RX10, "requireTwoSeats", "(II)V"⟩
theorem dX10_requireTwoSeats_0 : decode cX10_requireTwoSeats 0 = .ok (.aload_n 0, 1) := by decide +kernel
theorem dX10_requireTwoSeats_1 : decode cX10_requireTwoSeats 1 = .ok (.iload_n 1, 1) := by decide +kernel
theorem dX10_requireTwoSeats_2 : decode cX10_requireTwoSeats 2 = .ok (.invokevirtual 162, 3) := by decide +kernel
theorem q_866 : (Cond.code yX10_requireSeat cX10_requireSeat 2 none) ∈ tw := tw_in (i := 866) (by decide +kernel) (by decide +kernel)
theorem q_1 : (Cond.initialized "NightfallVillage") ∈ tw := tw_in (i := 1) (by decide +kernel) (by decide +kernel)
theorem q_863 : (Cond.methodLink "NightfallVillage" 162 yX10_requireSeat) ∈ tw := tw_in (i := 863) (by decide +kernel) (by decide +kernel)
theorem q_865 : (Cond.instanceMethod yX10_requireSeat) ∈ tw := tw_in (i := 865) (by decide +kernel) (by decide +kernel)
theorem qp_14 : (Cond.selects yX10_requireSeat.cls yX10_requireSeat yX10_requireSeat) ∈ tw := tw_inP (i := 14) (by decide +kernel) (by decide +kernel)
set_option maxHeartbeats 4000000 in
set_option maxRecDepth 100000 in
theorem c_requireTwoSeats (l : Launch) (hst : l.stackTraces = false) (tE : Nat) (adK adV : Nat → Nat) (dC : Nat → ClassId) (dI : Nat → Nat → Nat) (h0 : Nat) (r0 : Nat) (d0 : Nat) (g0 : Nat) (g1 : Nat) (y1 : Nat) (s1 : Nat) (l1 : Nat) (w1 : Nat) (b1 : Nat) (b2 : Nat) (b3 : Nat) (p1 : Int32) (p2 : Int32) (sz : Nat) : vx_Met l yX10_requireTwoSeats (Cond.code yX10_requireTwoSeats cX10_requireTwoSeats 3 none :: tw) ({ frames := 7, cells := 1, slots := 6, locals := 103 }) (va_Pc [.ref h0, .int p1, .int p2] (preR tE adK adV (dC, dI) [(h0, .inr (10, [.ref r0, .ref d0, .ref g0, .ref g1, .ref y1, .ref s1, .ref l1, .ref w1])), (d0, .inr (2, [.ref b1, .ref b2, .ref b3, .int 0, .int (-1), .int (-1)]))] [] sz)) (va_Qv (fun (_ : Unit) => False) (fun (_ : Unit) (_ : State) => True) (fun q : Nat => sz ≤ q)) (vx_X (fun _ : Unit => True) (fun E (_ : Unit) (_ : State) => E = "java/lang/IndexOutOfBoundsException") (fun q : Nat => sz ≤ q)) 1 6 (fun q : Nat => sz ≤ q) := by
  refine vx_ofW (cc := cX10_requireTwoSeats) (maxL := 3) (ret := none) (by decide) rfl ?_
  intro p e s m args below meth c s₁ B hml hte hv
  obtain ⟨rfl, hsz, hP, hK, ham⟩ := hv
  have hx := B.exec
  have hb := B.bytes
  have hr := B.returns
  have hts := atoms_spec B.pre
  have hq : ∀ w ∈ tw, w.before _ s = true := fun w h => hts w (List.mem_cons_of_mem _ h)
  have hown : s.vm.findClass RX10 = some m.cls := findClass_of_methodNamed B.named
  have hlocks := B.notSynchronized
  subst hsz
  generalize hAe : (fun q : Nat => s.heap.size ≤ q) = A at ham ⊢
  have hA : ∀ q : Nat, s.heap.size ≤ q → A q := fun q h => by rw [← hAe]; exact h
  have hS : va_S A s.heap s.heap [] := va_S.rf
  have hP : va_P (dC, dI) cls [(h0, .inr (10, [.ref r0, .ref d0, .ref g0, .ref g1, .ref y1, .ref s1, .ref l1, .ref w1])), (d0, .inr (2, [.ref b1, .ref b2, .ref b3, .int 0, .int (-1), .int (-1)]))] s.heap := hP
  have hl := lv_entry ([.ref h0, .int p1, .int p2]) (n := 3) (Nat.le_of_ble_eq_true rfl)
  rw [lg_entry_eq]
  generalize (lg_sl ([.ref h0, .int p1, .int p2]) ++ List.replicate (3 - (lg_sl ([.ref h0, .int p1, .int p2])).length) Slot.unset).toArray = ls at hl ⊢
  have hl : lv_has ls 3 [(0, .ref h0), (1, .int p1), (2, .int p2)] := hl
  refine lv_aload_n hx hb dX10_requireTwoSeats_0 rfl (lv_at hl 0 rfl) ?_
  refine lv_iload_n hx hb dX10_requireTwoSeats_1 rfl (lv_at hl 1 rfl) ?_
  have hPc := hP.sub (ws' := [(h0, .inr (10, [.ref r0, .ref d0, .ref g0, .ref g1, .ref y1, .ref s1, .ref l1, .ref w1])), (d0, .inr (2, [.ref b1, .ref b2, .ref b3, .int 0, .int (-1), .int (-1)]))]) [0, 1] rfl
  have hKc := hK.sub (tys' := []) [] rfl
  refine vx_callv (vx_runV (As := [.int p1]) (rest := []) ⟨hx, hb, hml, hown, hq⟩ (c_requireSeat l hst tE adK adV dC dI h0 r0 d0 g0 g1 y1 s1 l1 w1 b1 b2 b3 p1 s.heap.size) (tcV 1 hq q_866 q_1 q_863 q_865 qp_14 rfl rfl (by decide +kernel) ⟨Nat.le_of_ble_eq_true rfl, Nat.le_of_ble_eq_true rfl⟩) (preR.V (va_recv hK hP (ci := 10) (q0 := 0) rfl rfl) (preR.of hPc hKc ham hS hA)) rfl rfl hl.1 rfl (lv_room (Nat.le_of_ble_eq_true rfl)) dX10_requireTwoSeats_2 ⟨Nat.le_of_ble_eq_true rfl, Nat.le_of_ble_eq_true rfl⟩) hS (fun q _ h => hA q (Nat.le_trans hS.1 h)) (fun q h => hA q (Nat.le_trans hS.1 h)) (fun q _ h => hA q (Nat.le_trans hS.1 h)) (fun E ce q9 u t H1 locs ht hvm hpx hB hz1 hk1 hS hce hcv hcl => ?_) (fun u t H1 locs ht hvm hw hB hz1 hk1 hS => ?_)
  · have hE : E = "java/lang/IndexOutOfBoundsException" := hB
    exact vx_out (fun x9 h9 => (hte x9 h9).elim) hlocks hce hcv hcl (vx_thru hE hS) hS.2.2 (Nat.le_of_ble_eq_true rfl) (Nat.le_of_ble_eq_true rfl)
  · exact (hw : False).elim
abbrev cX10_requireNotBegun : ByteArray := prog_1_method_46_code
def yX10_requireNotBegun : MethodName := ⟨RX10, "requireNotBegun", "()V"⟩
theorem dX10_requireNotBegun_0 : decode cX10_requireNotBegun 0 = .ok (.aload_n 0, 1) := by decide +kernel
theorem dX10_requireNotBegun_1 : decode cX10_requireNotBegun 1 = .ok (.getfield 28, 3) := by decide +kernel
theorem dX10_requireNotBegun_4 : decode cX10_requireNotBegun 4 = .ok (.getfield 139, 3) := by decide +kernel
theorem q_215 : (Cond.fieldLinkNest "NightfallVillage" 139 "NightfallVillage$Game" "hasBegun" "Z" "NightfallVillage") ∈ tw := tw_in (i := 215) (by decide +kernel) (by decide +kernel)
theorem dX10_requireNotBegun_7 : decode cX10_requireNotBegun 7 = .ok (.ifCond .eq 14, 3) := by decide +kernel
theorem dX10_requireNotBegun_21 : decode cX10_requireNotBegun 21 = .ok (.return_, 1) := by decide +kernel
set_option maxHeartbeats 4000000 in
set_option maxRecDepth 100000 in
theorem c_requireNotBegun (l : Launch) (hst : l.stackTraces = false) (tE : Nat) (adK adV : Nat → Nat) (dC : Nat → ClassId) (dI : Nat → Nat → Nat) (h0 : Nat) (r0 : Nat) (d0 : Nat) (g0 : Nat) (g1 : Nat) (y1 : Nat) (s1 : Nat) (l1 : Nat) (w1 : Nat) (f0 : Nat) (n0 : Nat) (y0 : Nat) (sz : Nat) : Met l yX10_requireNotBegun (Cond.code yX10_requireNotBegun cX10_requireNotBegun 1 none :: tw) ({ frames := 0, cells := 0, slots := 0, locals := 0 }) (va_Pc [.ref h0] (preR tE adK adV (dC, dI) [(h0, .inr (10, [.ref r0, .ref d0, .ref g0, .ref g1, .ref y1, .ref s1, .ref l1, .ref w1])), (g0, .inr (4, [.ref f0, .ref n0, .ref y0, .int 0, .int 0, .int 0, .int 45]))] [] sz)) (va_Qv (fun (_ : Unit) => True) (fun (_ : Unit) (_ : State) => True) (fun q : Nat => sz ≤ q)) 0 0 (fun q : Nat => sz ≤ q) := by
  refine Met.ofW (cc := cX10_requireNotBegun) (maxL := 1) (ret := none) (by decide) rfl ?_
  intro p e s m args below meth c s₁ B hml hv
  obtain ⟨rfl, hsz, hP, hK, ham⟩ := hv
  have hx := B.exec
  have hb := B.bytes
  have hr := B.returns
  have hts := atoms_spec B.pre
  have hq : ∀ w ∈ tw, w.before _ s = true := fun w h => hts w (List.mem_cons_of_mem _ h)
  have hown : s.vm.findClass RX10 = some m.cls := findClass_of_methodNamed B.named
  have hlocks := B.notSynchronized
  subst hsz
  generalize hAe : (fun q : Nat => s.heap.size ≤ q) = A at ham ⊢
  have hA : ∀ q : Nat, s.heap.size ≤ q → A q := fun q h => by rw [← hAe]; exact h
  have hS : va_S A s.heap s.heap [] := va_S.rf
  have hP : va_P (dC, dI) cls [(h0, .inr (10, [.ref r0, .ref d0, .ref g0, .ref g1, .ref y1, .ref s1, .ref l1, .ref w1])), (g0, .inr (4, [.ref f0, .ref n0, .ref y0, .int 0, .int 0, .int 0, .int 45]))] s.heap := hP
  have hl := lv_entry ([.ref h0]) (n := 1) (Nat.le_of_ble_eq_true rfl)
  rw [lg_entry_eq]
  generalize (lg_sl ([.ref h0]) ++ List.replicate (1 - (lg_sl ([.ref h0])).length) Slot.unset).toArray = ls at hl ⊢
  have hl : lv_has ls 1 [(0, .ref h0)] := hl
  refine lv_aload_n hx hb dX10_requireNotBegun_0 rfl (lv_at hl 0 rfl) ?_
  refine va_get (D := (dC, dI)) (ci := 10) (v := .ref g0) (C := RX10) (T := TX10) (N := 8) hx hb hq i_X10 hown hK hP 0 rfl rfl 2 (by decide) (hq _ q_328) (fun _ h9 => h9) rfl dX10_requireNotBegun_1 ?_
  refine va_getN (D := (dC, dI)) (host := "NightfallVillage") (ci := 4) (v := .int 0) (C := RX4) (T := TX4) (N := 7) hx hb hq i_X4 hown hK hP 1 rfl rfl 3 (by decide) (hq _ q_215) (fun _ h9 => h9) rfl dX10_requireNotBegun_4 ?_
  refine lv_if_eq (tgt := 21) hx hb dX10_requireNotBegun_7 (by decide) (fun c_1 => ?_) (fun c_1 => ?_)
  · refine W.widen (k := 0) (n := 0) (Nat.le_of_ble_eq_true rfl) (Nat.le_of_ble_eq_true rfl) ?_
    exact W.vret hx hb hr (fun t ht hW => ⟨⟨(), rfl, trivial, trivial⟩, hS.F ht⟩) hS.2.2 dX10_requireNotBegun_21
  · exact absurd c_1 (by decide)
abbrev cX10_requireBegun : ByteArray := prog_1_method_47_code
def yX10_requireBegun : MethodName := ⟨RX10, "requireBegun", "()V"⟩
theorem dX10_requireBegun_0 : decode cX10_requireBegun 0 = .ok (.aload_n 0, 1) := by decide +kernel
theorem dX10_requireBegun_1 : decode cX10_requireBegun 1 = .ok (.getfield 28, 3) := by decide +kernel
theorem dX10_requireBegun_4 : decode cX10_requireBegun 4 = .ok (.getfield 139, 3) := by decide +kernel
theorem dX10_requireBegun_7 : decode cX10_requireBegun 7 = .ok (.ifCond .ne 14, 3) := by decide +kernel
theorem dX10_requireBegun_10 : decode cX10_requireBegun 10 = .ok (.new 90, 3) := by decide +kernel
theorem at_X10_IllegalStateException_94_90 : ∀ w ∈ vx_atS RX10 94 "java/lang/IllegalStateException" ["java/lang/RuntimeException", "java/lang/Exception"], w ∈ tw := fun w hw => thr_in (List.all_eq_true.mp (show (vx_atS RX10 94 "java/lang/IllegalStateException" ["java/lang/RuntimeException", "java/lang/Exception"]).all (fun w => decide (w ∈ thr_all)) = true by decide +kernel) w hw)
theorem at_X10_IllegalStateException_94_90_g : ∀ w ∈ Cond.classLink RX10 90 "java/lang/IllegalStateException" :: Cond.initialized "java/lang/IllegalStateException" :: vx_atS RX10 94 "java/lang/IllegalStateException" ["java/lang/RuntimeException", "java/lang/Exception"], vx_ot w = true := fun w hw => List.all_eq_true.mp (show (Cond.classLink RX10 90 "java/lang/IllegalStateException" :: Cond.initialized "java/lang/IllegalStateException" :: vx_atS RX10 94 "java/lang/IllegalStateException" ["java/lang/RuntimeException", "java/lang/Exception"]).all vx_ot = true by decide +kernel) w hw
theorem sr_1064 : Cond.stringRef "NightfallVillage" 324 "the game has not begun" ∈ tables_1 := List.mem_of_getElem? (i := 1064) (by decide +kernel)
theorem q_786 : (Cond.classLink "NightfallVillage" 90 "java/lang/IllegalStateException") ∈ tw := tw_in (i := 786) (by decide +kernel) (by decide +kernel)
theorem q_22 : (Cond.initialized "java/lang/IllegalStateException") ∈ tw := tw_in (i := 22) (by decide +kernel) (by decide +kernel)
theorem dX10_requireBegun_13 : decode cX10_requireBegun 13 = .ok (.dup, 1) := by decide +kernel
theorem dX10_requireBegun_14 : decode cX10_requireBegun 14 = .ok (.ldc_w 324, 3) := by decide +kernel
theorem dX10_requireBegun_17 : decode cX10_requireBegun 17 = .ok (.invokespecial 94, 3) := by decide +kernel
theorem dX10_requireBegun_20 : decode cX10_requireBegun 20 = .ok (.athrow, 1) := by decide +kernel
set_option maxHeartbeats 4000000 in
set_option maxRecDepth 100000 in
theorem c_requireBegun (l : Launch) (hst : l.stackTraces = false) (tE : Nat) (adK adV : Nat → Nat) (dC : Nat → ClassId) (dI : Nat → Nat → Nat) (h0 : Nat) (r0 : Nat) (d0 : Nat) (g0 : Nat) (g1 : Nat) (y1 : Nat) (s1 : Nat) (l1 : Nat) (w1 : Nat) (f0 : Nat) (n0 : Nat) (y0 : Nat) (sz : Nat) : vx_Met l yX10_requireBegun (Cond.code yX10_requireBegun cX10_requireBegun 1 none :: tw) ({ frames := 6, cells := 1, slots := 6, locals := 82 }) (va_Pc [.ref h0] (preR tE adK adV (dC, dI) [(h0, .inr (10, [.ref r0, .ref d0, .ref g0, .ref g1, .ref y1, .ref s1, .ref l1, .ref w1])), (g0, .inr (4, [.ref f0, .ref n0, .ref y0, .int 0, .int 0, .int 0, .int 45]))] [] sz)) (va_Qv (fun (_ : Unit) => False) (fun (_ : Unit) (_ : State) => True) (fun q : Nat => sz ≤ q)) (vx_X (fun _ : Unit => True) (fun E (_ : Unit) (_ : State) => E = "java/lang/IllegalStateException") (fun q : Nat => sz ≤ q)) 1 6 (fun q : Nat => sz ≤ q) := by
  refine vx_ofW (cc := cX10_requireBegun) (maxL := 1) (ret := none) (by decide) rfl ?_
  intro p e s m args below meth c s₁ B hml hte hv
  obtain ⟨rfl, hsz, hP, hK, ham⟩ := hv
  have hx := B.exec
  have hb := B.bytes
  have hr := B.returns
  have hts := atoms_spec B.pre
  have hq : ∀ w ∈ tw, w.before _ s = true := fun w h => hts w (List.mem_cons_of_mem _ h)
  have hown : s.vm.findClass RX10 = some m.cls := findClass_of_methodNamed B.named
  have hlocks := B.notSynchronized
  subst hsz
  generalize hAe : (fun q : Nat => s.heap.size ≤ q) = A at ham ⊢
  have hA : ∀ q : Nat, s.heap.size ≤ q → A q := fun q h => by rw [← hAe]; exact h
  have hS : va_S A s.heap s.heap [] := va_S.rf
  have hP : va_P (dC, dI) cls [(h0, .inr (10, [.ref r0, .ref d0, .ref g0, .ref g1, .ref y1, .ref s1, .ref l1, .ref w1])), (g0, .inr (4, [.ref f0, .ref n0, .ref y0, .int 0, .int 0, .int 0, .int 45]))] s.heap := hP
  have hl := lv_entry ([.ref h0]) (n := 1) (Nat.le_of_ble_eq_true rfl)
  rw [lg_entry_eq]
  generalize (lg_sl ([.ref h0]) ++ List.replicate (1 - (lg_sl ([.ref h0])).length) Slot.unset).toArray = ls at hl ⊢
  have hl : lv_has ls 1 [(0, .ref h0)] := hl
  refine lv_aload_n hx hb dX10_requireBegun_0 rfl (lv_at hl 0 rfl) ?_
  refine va_get (D := (dC, dI)) (ci := 10) (v := .ref g0) (C := RX10) (T := TX10) (N := 8) hx hb hq i_X10 hown hK hP 0 rfl rfl 2 (by decide) (hq _ q_328) (fun _ h9 => h9) rfl dX10_requireBegun_1 ?_
  refine va_getN (D := (dC, dI)) (host := "NightfallVillage") (ci := 4) (v := .int 0) (C := RX4) (T := TX4) (N := 7) hx hb hq i_X4 hown hK hP 1 rfl rfl 3 (by decide) (hq _ q_215) (fun _ h9 => h9) rfl dX10_requireBegun_4 ?_
  refine lv_if_ne (tgt := 21) hx hb dX10_requireBegun_7 (by decide) (fun c_1 => ?_) (fun c_1 => ?_)
  · exact absurd c_1 (by decide)
  · obtain ⟨sa_2, hsa_2⟩ := ham.2.1 _ _ _ sr_1064
    exact vx_throwSW hx hb hst (own := RX10) (cls := "java/lang/IllegalStateException") (names := ["java/lang/RuntimeException", "java/lang/Exception"]) hown (by decide) (by decide) (hq _ q_786) (hq _ q_22) hsa_2 (fun w9 h9 => hq _ (at_X10_IllegalStateException_94_90 w9 h9)) at_X10_IllegalStateException_94_90_g ham.1.1 ham.1.2 hS (hl.1.trans hml.symm) dX10_requireBegun_10 dX10_requireBegun_13 dX10_requireBegun_14 dX10_requireBegun_17 dX10_requireBegun_20 (fun x9 h9 => (hte x9 h9).elim) (Nat.le_of_ble_eq_true rfl) (Nat.le_of_ble_eq_true rfl) (Nat.le_of_ble_eq_true rfl) (Nat.le_of_ble_eq_true rfl) hlocks (vx_end hS) hS.2.2 (Nat.le_of_ble_eq_true rfl) (Nat.le_of_ble_eq_true rfl)
abbrev cX10_requireRunning : ByteArray := prog_1_method_48_code
def yX10_requireRunning : MethodName := ⟨RX10, "requireRunning", "()V"⟩
theorem dX10_requireRunning_0 : decode cX10_requireRunning 0 = .ok (.aload_n 0, 1) := by decide +kernel
theorem dX10_requireRunning_1 : decode cX10_requireRunning 1 = .ok (.getfield 28, 3) := by decide +kernel
theorem dX10_requireRunning_4 : decode cX10_requireRunning 4 = .ok (.invokevirtual 348, 3) := by decide +kernel
theorem q_449 : (Cond.code yX4_isRunning cX4_isRunning 1 (some .boolean)) ∈ tw := tw_in (i := 449) (by decide +kernel) (by decide +kernel)
theorem q_928 : (Cond.methodLink "NightfallVillage" 348 yX4_isRunning) ∈ tw := tw_in (i := 928) (by decide +kernel) (by decide +kernel)
theorem q_447 : (Cond.instanceMethod yX4_isRunning) ∈ tw := tw_in (i := 447) (by decide +kernel) (by decide +kernel)
theorem q_448 : (Cond.selects "NightfallVillage$Game" yX4_isRunning yX4_isRunning) ∈ tw := tw_in (i := 448) (by decide +kernel) (by decide +kernel)
theorem dX10_requireRunning_7 : decode cX10_requireRunning 7 = .ok (.ifCond .ne 14, 3) := by decide +kernel
theorem dX10_requireRunning_10 : decode cX10_requireRunning 10 = .ok (.new 90, 3) := by decide +kernel
theorem sr_929 : Cond.stringRef "NightfallVillage" 351 "the game has not begun, or is over" ∈ tables_1 := List.mem_of_getElem? (i := 929) (by decide +kernel)
theorem dX10_requireRunning_13 : decode cX10_requireRunning 13 = .ok (.dup, 1) := by decide +kernel
theorem dX10_requireRunning_14 : decode cX10_requireRunning 14 = .ok (.ldc_w 351, 3) := by decide +kernel
theorem dX10_requireRunning_17 : decode cX10_requireRunning 17 = .ok (.invokespecial 94, 3) := by decide +kernel
theorem dX10_requireRunning_20 : decode cX10_requireRunning 20 = .ok (.athrow, 1) := by decide +kernel
set_option maxHeartbeats 4000000 in
set_option maxRecDepth 100000 in
theorem c_requireRunning (l : Launch) (hst : l.stackTraces = false) (tE : Nat) (adK adV : Nat → Nat) (dC : Nat → ClassId) (dI : Nat → Nat → Nat) (h0 : Nat) (r0 : Nat) (d0 : Nat) (g0 : Nat) (g1 : Nat) (y1 : Nat) (s1 : Nat) (l1 : Nat) (w1 : Nat) (f0 : Nat) (n0 : Nat) (y0 : Nat) (sz : Nat) : vx_Met l yX10_requireRunning (Cond.code yX10_requireRunning cX10_requireRunning 1 none :: tw) ({ frames := 6, cells := 1, slots := 6, locals := 82 }) (va_Pc [.ref h0] (preR tE adK adV (dC, dI) [(h0, .inr (10, [.ref r0, .ref d0, .ref g0, .ref g1, .ref y1, .ref s1, .ref l1, .ref w1])), (g0, .inr (4, [.ref f0, .ref n0, .ref y0, .int 0, .int 0, .int 0, .int 45]))] [] sz)) (va_Qv (fun (_ : Unit) => False) (fun (_ : Unit) (_ : State) => True) (fun q : Nat => sz ≤ q)) (vx_X (fun _ : Unit => True) (fun E (_ : Unit) (_ : State) => E = "java/lang/IllegalStateException") (fun q : Nat => sz ≤ q)) 1 6 (fun q : Nat => sz ≤ q) := by
  refine vx_ofW (cc := cX10_requireRunning) (maxL := 1) (ret := none) (by decide) rfl ?_
  intro p e s m args below meth c s₁ B hml hte hv
  obtain ⟨rfl, hsz, hP, hK, ham⟩ := hv
  have hx := B.exec
  have hb := B.bytes
  have hr := B.returns
  have hts := atoms_spec B.pre
  have hq : ∀ w ∈ tw, w.before _ s = true := fun w h => hts w (List.mem_cons_of_mem _ h)
  have hown : s.vm.findClass RX10 = some m.cls := findClass_of_methodNamed B.named
  have hlocks := B.notSynchronized
  subst hsz
  generalize hAe : (fun q : Nat => s.heap.size ≤ q) = A at ham ⊢
  have hA : ∀ q : Nat, s.heap.size ≤ q → A q := fun q h => by rw [← hAe]; exact h
  have hS : va_S A s.heap s.heap [] := va_S.rf
  have hP : va_P (dC, dI) cls [(h0, .inr (10, [.ref r0, .ref d0, .ref g0, .ref g1, .ref y1, .ref s1, .ref l1, .ref w1])), (g0, .inr (4, [.ref f0, .ref n0, .ref y0, .int 0, .int 0, .int 0, .int 45]))] s.heap := hP
  have hl := lv_entry ([.ref h0]) (n := 1) (Nat.le_of_ble_eq_true rfl)
  rw [lg_entry_eq]
  generalize (lg_sl ([.ref h0]) ++ List.replicate (1 - (lg_sl ([.ref h0])).length) Slot.unset).toArray = ls at hl ⊢
  have hl : lv_has ls 1 [(0, .ref h0)] := hl
  refine lv_aload_n hx hb dX10_requireRunning_0 rfl (lv_at hl 0 rfl) ?_
  refine va_get (D := (dC, dI)) (ci := 10) (v := .ref g0) (C := RX10) (T := TX10) (N := 8) hx hb hq i_X10 hown hK hP 0 rfl rfl 2 (by decide) (hq _ q_328) (fun _ h9 => h9) rfl dX10_requireRunning_1 ?_
  have hPc := hP.sub (ws' := [(g0, .inr (4, [.ref f0, .ref n0, .ref y0, .int 0, .int 0, .int 0, .int 45]))]) [1] rfl
  have hKc := hK.sub (tys' := []) [] rfl
  refine va_calli (va_runV (As := []) (rest := []) ⟨hx, hb, hml, hown, hq⟩ (c_isRunning l hst tE adK adV dC dI g0 f0 n0 y0 s.heap.size) (tcV 0 hq q_449 q_4 q_928 q_447 q_448 rfl rfl (by decide +kernel) ⟨Nat.le_of_ble_eq_true rfl, Nat.le_of_ble_eq_true rfl⟩) (preR.V (va_recv hK hP (ci := 4) (q0 := 1) rfl rfl) (preR.of hPc hKc ham hS hA)) rfl rfl hl.1 rfl (lv_room (Nat.le_of_ble_eq_true rfl)) dX10_requireRunning_4 ⟨Nat.le_of_ble_eq_true rfl, Nat.le_of_ble_eq_true rfl⟩) hS (fun q _ h => hA q (Nat.le_trans hS.1 h)) (fun q h => hA q (Nat.le_trans hS.1 h)) (fun r_1 u t H1 locs ht hvm hw hB hz1 hk1 hS => ?_)
  have hP : va_P (dC, dI) cls [(h0, .inr (10, [.ref r0, .ref d0, .ref g0, .ref g1, .ref y1, .ref s1, .ref l1, .ref w1])), (g0, .inr (4, [.ref f0, .ref n0, .ref y0, .int 0, .int 0, .int 0, .int 45]))] H1 := ro_keep hP hk1
  generalize H1 = H at hP hS ⊢
  refine W.widen (k := 0) (n := 0) (Nat.le_of_ble_eq_true rfl) (Nat.le_of_ble_eq_true rfl) ?_
  have hw : r_1 = 0 := hw
  subst hw
  refine lv_if_ne (tgt := 21) hx hb dX10_requireRunning_7 (by decide) (fun c_2 => ?_) (fun c_2 => ?_)
  · exact absurd c_2 (by decide)
  · obtain ⟨sa_3, hsa_3⟩ := ham.2.1 _ _ _ sr_929
    exact vx_throwSW hx hb hst (own := RX10) (cls := "java/lang/IllegalStateException") (names := ["java/lang/RuntimeException", "java/lang/Exception"]) hown (by decide) (by decide) (hq _ q_786) (hq _ q_22) hsa_3 (fun w9 h9 => hq _ (at_X10_IllegalStateException_94_90 w9 h9)) at_X10_IllegalStateException_94_90_g ham.1.1 ham.1.2 hS (hl.1.trans hml.symm) dX10_requireRunning_10 dX10_requireRunning_13 dX10_requireRunning_14 dX10_requireRunning_17 dX10_requireRunning_20 (fun x9 h9 => (hte x9 h9).elim) (Nat.le_of_ble_eq_true rfl) (Nat.le_of_ble_eq_true rfl) (Nat.le_of_ble_eq_true rfl) (Nat.le_of_ble_eq_true rfl) hlocks (vx_end hS) hS.2.2 (Nat.le_of_ble_eq_true rfl) (Nat.le_of_ble_eq_true rfl)
abbrev cX10_isSide : ByteArray := prog_1_method_41_code
def yX10_isSide : MethodName := ⟨RX10, "isSide", "(C)Z"⟩
theorem dX10_isSide_0 : decode cX10_isSide 0 = .ok (.iload_n 0, 1) := by decide +kernel
theorem dX10_isSide_1 : decode cX10_isSide 1 = .ok (.bipush 118, 2) := by decide +kernel
theorem dX10_isSide_3 : decode cX10_isSide 3 = .ok (.if_icmp .eq 15, 3) := by decide +kernel
theorem dX10_isSide_18 : decode cX10_isSide 18 = .ok (.iconst 1, 1) := by decide +kernel
theorem dX10_isSide_19 : decode cX10_isSide 19 = .ok (.goto 4, 3) := by decide +kernel
theorem dX10_isSide_23 : decode cX10_isSide 23 = .ok (.ireturn, 1) := by decide +kernel
theorem dX10_isSide_6 : decode cX10_isSide 6 = .ok (.iload_n 0, 1) := by decide +kernel
theorem dX10_isSide_7 : decode cX10_isSide 7 = .ok (.bipush 119, 2) := by decide +kernel
theorem dX10_isSide_9 : decode cX10_isSide 9 = .ok (.if_icmp .eq 9, 3) := by decide +kernel
theorem dX10_isSide_12 : decode cX10_isSide 12 = .ok (.iload_n 0, 1) := by decide +kernel
theorem dX10_isSide_13 : decode cX10_isSide 13 = .ok (.bipush 108, 2) := by decide +kernel
theorem dX10_isSide_15 : decode cX10_isSide 15 = .ok (.if_icmp .ne 7, 3) := by decide +kernel
theorem dX10_isSide_22 : decode cX10_isSide 22 = .ok (.iconst 0, 1) := by decide +kernel
set_option maxHeartbeats 4000000 in
set_option maxRecDepth 100000 in
theorem c_isSide (l : Launch) (hst : l.stackTraces = false) (tE : Nat) (adK adV : Nat → Nat) (dC : Nat → ClassId) (dI : Nat → Nat → Nat) (p1 : Int32) (sz : Nat) : Met l yX10_isSide (Cond.code yX10_isSide cX10_isSide 1 (some .boolean) :: tw) ({ frames := 0, cells := 0, slots := 0, locals := 0 }) (va_Pc [.int p1] (preR tE adK adV (dC, dI) [] [] sz)) (va_Qi (fun (r : Int32) (_ : Unit) => (r = 1 ∧ okS p1) ∨ (r = 0 ∧ ¬ okS p1)) (fun (_ : Unit) (_ : State) => True) (fun q : Nat => sz ≤ q)) 0 0 (fun q : Nat => sz ≤ q) := by
  refine Met.ofW (cc := cX10_isSide) (maxL := 1) (ret := (some .boolean)) (by decide) rfl ?_
  intro p e s m args below meth c s₁ B hml hv
  obtain ⟨rfl, hsz, hP, hK, ham⟩ := hv
  have hx := B.exec
  have hb := B.bytes
  have hr := B.returns
  have hts := atoms_spec B.pre
  have hq : ∀ w ∈ tw, w.before _ s = true := fun w h => hts w (List.mem_cons_of_mem _ h)
  have hown : s.vm.findClass RX10 = some m.cls := findClass_of_methodNamed B.named
  have hlocks := B.notSynchronized
  subst hsz
  generalize hAe : (fun q : Nat => s.heap.size ≤ q) = A at ham ⊢
  have hA : ∀ q : Nat, s.heap.size ≤ q → A q := fun q h => by rw [← hAe]; exact h
  have hS : va_S A s.heap s.heap [] := va_S.rf
  have hP : va_P (dC, dI) cls [] s.heap := hP
  have hl := lv_entry ([.int p1]) (n := 1) (Nat.le_of_ble_eq_true rfl)
  rw [lg_entry_eq]
  generalize (lg_sl ([.int p1]) ++ List.replicate (1 - (lg_sl ([.int p1])).length) Slot.unset).toArray = ls at hl ⊢
  have hl : lv_has ls 1 [(0, .int p1)] := hl
  refine lv_iload_n hx hb dX10_isSide_0 rfl (lv_at hl 0 rfl) ?_
  refine lv_bipush (v := 118) hx hb dX10_isSide_1 (by decide) ?_
  refine lv_icmp_eq (tgt := 18) hx hb dX10_isSide_3 (by decide) (fun c_1 => ?_) (fun c_1 => ?_)
  · refine lv_iconst (v := 1) hx hb dX10_isSide_18 (by decide) ?_
    refine lv_goto (tgt := 23) hx hb dX10_isSide_19 (by decide) ?_
    refine W.widen (k := 0) (n := 0) (Nat.le_of_ble_eq_true rfl) (Nat.le_of_ble_eq_true rfl) ?_
    exact W.zret (v := 1) hx hb hr (by decide) (fun t ht hW => ⟨⟨1, (), rfl, (by exact Or.inl ⟨rfl, Or.inl c_1⟩), trivial⟩, hS.F ht⟩) hS.2.2 dX10_isSide_23
  · refine lv_iload_n hx hb dX10_isSide_6 rfl (lv_at hl 0 rfl) ?_
    refine lv_bipush (v := 119) hx hb dX10_isSide_7 (by decide) ?_
    refine lv_icmp_eq (tgt := 18) hx hb dX10_isSide_9 (by decide) (fun c_2 => ?_) (fun c_2 => ?_)
    · refine lv_iconst (v := 1) hx hb dX10_isSide_18 (by decide) ?_
      refine lv_goto (tgt := 23) hx hb dX10_isSide_19 (by decide) ?_
      refine W.widen (k := 0) (n := 0) (Nat.le_of_ble_eq_true rfl) (Nat.le_of_ble_eq_true rfl) ?_
      exact W.zret (v := 1) hx hb hr (by decide) (fun t ht hW => ⟨⟨1, (), rfl, (by exact Or.inl ⟨rfl, Or.inr (Or.inl c_2)⟩), trivial⟩, hS.F ht⟩) hS.2.2 dX10_isSide_23
    · refine lv_iload_n hx hb dX10_isSide_12 rfl (lv_at hl 0 rfl) ?_
      refine lv_bipush (v := 108) hx hb dX10_isSide_13 (by decide) ?_
      refine lv_icmp_ne (tgt := 22) hx hb dX10_isSide_15 (by decide) (fun c_3 => ?_) (fun c_3 => ?_)
      · refine lv_iconst (v := 0) hx hb dX10_isSide_22 (by decide) ?_
        refine W.widen (k := 0) (n := 0) (Nat.le_of_ble_eq_true rfl) (Nat.le_of_ble_eq_true rfl) ?_
        exact W.zret (v := 0) hx hb hr (by decide) (fun t ht hW => ⟨⟨0, (), rfl, (by exact Or.inr ⟨rfl, (fun z => z.elim c_1 (fun z => z.elim c_2 c_3))⟩), trivial⟩, hS.F ht⟩) hS.2.2 dX10_isSide_23
      · refine lv_iconst (v := 1) hx hb dX10_isSide_18 (by decide) ?_
        refine lv_goto (tgt := 23) hx hb dX10_isSide_19 (by decide) ?_
        refine W.widen (k := 0) (n := 0) (Nat.le_of_ble_eq_true rfl) (Nat.le_of_ble_eq_true rfl) ?_
        exact W.zret (v := 1) hx hb hr (by decide) (fun t ht hW => ⟨⟨1, (), rfl, (by exact Or.inl ⟨rfl, Or.inr (Or.inr (c_3))⟩), trivial⟩, hS.F ht⟩) hS.2.2 dX10_isSide_23
abbrev cX10_isAct : ByteArray := prog_1_method_42_code
def yX10_isAct : MethodName := ⟨RX10, "isAct", "(C)Z"⟩
theorem dX10_isAct_0 : decode cX10_isAct 0 = .ok (.iload_n 0, 1) := by decide +kernel
theorem dX10_isAct_1 : decode cX10_isAct 1 = .ok (.bipush 45, 2) := by decide +kernel
theorem dX10_isAct_3 : decode cX10_isAct 3 = .ok (.if_icmp .eq 45, 3) := by decide +kernel
theorem dX10_isAct_48 : decode cX10_isAct 48 = .ok (.iconst 1, 1) := by decide +kernel
theorem dX10_isAct_49 : decode cX10_isAct 49 = .ok (.goto 4, 3) := by decide +kernel
theorem dX10_isAct_53 : decode cX10_isAct 53 = .ok (.ireturn, 1) := by decide +kernel
theorem dX10_isAct_6 : decode cX10_isAct 6 = .ok (.iload_n 0, 1) := by decide +kernel
theorem dX10_isAct_7 : decode cX10_isAct 7 = .ok (.bipush 98, 2) := by decide +kernel
theorem dX10_isAct_9 : decode cX10_isAct 9 = .ok (.if_icmp .eq 39, 3) := by decide +kernel
theorem dX10_isAct_12 : decode cX10_isAct 12 = .ok (.iload_n 0, 1) := by decide +kernel
theorem dX10_isAct_13 : decode cX10_isAct 13 = .ok (.bipush 114, 2) := by decide +kernel
theorem dX10_isAct_15 : decode cX10_isAct 15 = .ok (.if_icmp .eq 33, 3) := by decide +kernel
theorem dX10_isAct_18 : decode cX10_isAct 18 = .ok (.iload_n 0, 1) := by decide +kernel
theorem dX10_isAct_19 : decode cX10_isAct 19 = .ok (.bipush 100, 2) := by decide +kernel
theorem dX10_isAct_21 : decode cX10_isAct 21 = .ok (.if_icmp .eq 27, 3) := by decide +kernel
theorem dX10_isAct_24 : decode cX10_isAct 24 = .ok (.iload_n 0, 1) := by decide +kernel
theorem dX10_isAct_25 : decode cX10_isAct 25 = .ok (.bipush 112, 2) := by decide +kernel
theorem dX10_isAct_27 : decode cX10_isAct 27 = .ok (.if_icmp .eq 21, 3) := by decide +kernel
theorem dX10_isAct_30 : decode cX10_isAct 30 = .ok (.iload_n 0, 1) := by decide +kernel
theorem dX10_isAct_31 : decode cX10_isAct 31 = .ok (.bipush 115, 2) := by decide +kernel
theorem dX10_isAct_33 : decode cX10_isAct 33 = .ok (.if_icmp .eq 15, 3) := by decide +kernel
theorem dX10_isAct_36 : decode cX10_isAct 36 = .ok (.iload_n 0, 1) := by decide +kernel
theorem dX10_isAct_37 : decode cX10_isAct 37 = .ok (.bipush 113, 2) := by decide +kernel
theorem dX10_isAct_39 : decode cX10_isAct 39 = .ok (.if_icmp .eq 9, 3) := by decide +kernel
theorem dX10_isAct_42 : decode cX10_isAct 42 = .ok (.iload_n 0, 1) := by decide +kernel
theorem dX10_isAct_43 : decode cX10_isAct 43 = .ok (.bipush 107, 2) := by decide +kernel
theorem dX10_isAct_45 : decode cX10_isAct 45 = .ok (.if_icmp .ne 7, 3) := by decide +kernel
theorem dX10_isAct_52 : decode cX10_isAct 52 = .ok (.iconst 0, 1) := by decide +kernel
set_option maxHeartbeats 4000000 in
set_option maxRecDepth 100000 in
theorem c_isAct (l : Launch) (hst : l.stackTraces = false) (tE : Nat) (adK adV : Nat → Nat) (dC : Nat → ClassId) (dI : Nat → Nat → Nat) (p1 : Int32) (sz : Nat) : Met l yX10_isAct (Cond.code yX10_isAct cX10_isAct 1 (some .boolean) :: tw) ({ frames := 0, cells := 0, slots := 0, locals := 0 }) (va_Pc [.int p1] (preR tE adK adV (dC, dI) [] [] sz)) (va_Qi (fun (r : Int32) (_ : Unit) => (r = 1 ∧ okA p1) ∨ (r = 0 ∧ ¬ okA p1)) (fun (_ : Unit) (_ : State) => True) (fun q : Nat => sz ≤ q)) 0 0 (fun q : Nat => sz ≤ q) := by
  refine Met.ofW (cc := cX10_isAct) (maxL := 1) (ret := (some .boolean)) (by decide) rfl ?_
  intro p e s m args below meth c s₁ B hml hv
  obtain ⟨rfl, hsz, hP, hK, ham⟩ := hv
  have hx := B.exec
  have hb := B.bytes
  have hr := B.returns
  have hts := atoms_spec B.pre
  have hq : ∀ w ∈ tw, w.before _ s = true := fun w h => hts w (List.mem_cons_of_mem _ h)
  have hown : s.vm.findClass RX10 = some m.cls := findClass_of_methodNamed B.named
  have hlocks := B.notSynchronized
  subst hsz
  generalize hAe : (fun q : Nat => s.heap.size ≤ q) = A at ham ⊢
  have hA : ∀ q : Nat, s.heap.size ≤ q → A q := fun q h => by rw [← hAe]; exact h
  have hS : va_S A s.heap s.heap [] := va_S.rf
  have hP : va_P (dC, dI) cls [] s.heap := hP
  have hl := lv_entry ([.int p1]) (n := 1) (Nat.le_of_ble_eq_true rfl)
  rw [lg_entry_eq]
  generalize (lg_sl ([.int p1]) ++ List.replicate (1 - (lg_sl ([.int p1])).length) Slot.unset).toArray = ls at hl ⊢
  have hl : lv_has ls 1 [(0, .int p1)] := hl
  refine lv_iload_n hx hb dX10_isAct_0 rfl (lv_at hl 0 rfl) ?_
  refine lv_bipush (v := 45) hx hb dX10_isAct_1 (by decide) ?_
  refine lv_icmp_eq (tgt := 48) hx hb dX10_isAct_3 (by decide) (fun c_1 => ?_) (fun c_1 => ?_)
  · refine lv_iconst (v := 1) hx hb dX10_isAct_48 (by decide) ?_
    refine lv_goto (tgt := 53) hx hb dX10_isAct_49 (by decide) ?_
    refine W.widen (k := 0) (n := 0) (Nat.le_of_ble_eq_true rfl) (Nat.le_of_ble_eq_true rfl) ?_
    exact W.zret (v := 1) hx hb hr (by decide) (fun t ht hW => ⟨⟨1, (), rfl, (by exact Or.inl ⟨rfl, Or.inl c_1⟩), trivial⟩, hS.F ht⟩) hS.2.2 dX10_isAct_53
  · refine lv_iload_n hx hb dX10_isAct_6 rfl (lv_at hl 0 rfl) ?_
    refine lv_bipush (v := 98) hx hb dX10_isAct_7 (by decide) ?_
    refine lv_icmp_eq (tgt := 48) hx hb dX10_isAct_9 (by decide) (fun c_2 => ?_) (fun c_2 => ?_)
    · refine lv_iconst (v := 1) hx hb dX10_isAct_48 (by decide) ?_
      refine lv_goto (tgt := 53) hx hb dX10_isAct_49 (by decide) ?_
      refine W.widen (k := 0) (n := 0) (Nat.le_of_ble_eq_true rfl) (Nat.le_of_ble_eq_true rfl) ?_
      exact W.zret (v := 1) hx hb hr (by decide) (fun t ht hW => ⟨⟨1, (), rfl, (by exact Or.inl ⟨rfl, Or.inr (Or.inl c_2)⟩), trivial⟩, hS.F ht⟩) hS.2.2 dX10_isAct_53
    · refine lv_iload_n hx hb dX10_isAct_12 rfl (lv_at hl 0 rfl) ?_
      refine lv_bipush (v := 114) hx hb dX10_isAct_13 (by decide) ?_
      refine lv_icmp_eq (tgt := 48) hx hb dX10_isAct_15 (by decide) (fun c_3 => ?_) (fun c_3 => ?_)
      · refine lv_iconst (v := 1) hx hb dX10_isAct_48 (by decide) ?_
        refine lv_goto (tgt := 53) hx hb dX10_isAct_49 (by decide) ?_
        refine W.widen (k := 0) (n := 0) (Nat.le_of_ble_eq_true rfl) (Nat.le_of_ble_eq_true rfl) ?_
        exact W.zret (v := 1) hx hb hr (by decide) (fun t ht hW => ⟨⟨1, (), rfl, (by exact Or.inl ⟨rfl, Or.inr (Or.inr (Or.inl c_3))⟩), trivial⟩, hS.F ht⟩) hS.2.2 dX10_isAct_53
      · refine lv_iload_n hx hb dX10_isAct_18 rfl (lv_at hl 0 rfl) ?_
        refine lv_bipush (v := 100) hx hb dX10_isAct_19 (by decide) ?_
        refine lv_icmp_eq (tgt := 48) hx hb dX10_isAct_21 (by decide) (fun c_4 => ?_) (fun c_4 => ?_)
        · refine lv_iconst (v := 1) hx hb dX10_isAct_48 (by decide) ?_
          refine lv_goto (tgt := 53) hx hb dX10_isAct_49 (by decide) ?_
          refine W.widen (k := 0) (n := 0) (Nat.le_of_ble_eq_true rfl) (Nat.le_of_ble_eq_true rfl) ?_
          exact W.zret (v := 1) hx hb hr (by decide) (fun t ht hW => ⟨⟨1, (), rfl, (by exact Or.inl ⟨rfl, Or.inr (Or.inr (Or.inr (Or.inl c_4)))⟩), trivial⟩, hS.F ht⟩) hS.2.2 dX10_isAct_53
        · refine lv_iload_n hx hb dX10_isAct_24 rfl (lv_at hl 0 rfl) ?_
          refine lv_bipush (v := 112) hx hb dX10_isAct_25 (by decide) ?_
          refine lv_icmp_eq (tgt := 48) hx hb dX10_isAct_27 (by decide) (fun c_5 => ?_) (fun c_5 => ?_)
          · refine lv_iconst (v := 1) hx hb dX10_isAct_48 (by decide) ?_
            refine lv_goto (tgt := 53) hx hb dX10_isAct_49 (by decide) ?_
            refine W.widen (k := 0) (n := 0) (Nat.le_of_ble_eq_true rfl) (Nat.le_of_ble_eq_true rfl) ?_
            exact W.zret (v := 1) hx hb hr (by decide) (fun t ht hW => ⟨⟨1, (), rfl, (by exact Or.inl ⟨rfl, Or.inr (Or.inr (Or.inr (Or.inr (Or.inl c_5))))⟩), trivial⟩, hS.F ht⟩) hS.2.2 dX10_isAct_53
          · refine lv_iload_n hx hb dX10_isAct_30 rfl (lv_at hl 0 rfl) ?_
            refine lv_bipush (v := 115) hx hb dX10_isAct_31 (by decide) ?_
            refine lv_icmp_eq (tgt := 48) hx hb dX10_isAct_33 (by decide) (fun c_6 => ?_) (fun c_6 => ?_)
            · refine lv_iconst (v := 1) hx hb dX10_isAct_48 (by decide) ?_
              refine lv_goto (tgt := 53) hx hb dX10_isAct_49 (by decide) ?_
              refine W.widen (k := 0) (n := 0) (Nat.le_of_ble_eq_true rfl) (Nat.le_of_ble_eq_true rfl) ?_
              exact W.zret (v := 1) hx hb hr (by decide) (fun t ht hW => ⟨⟨1, (), rfl, (by exact Or.inl ⟨rfl, Or.inr (Or.inr (Or.inr (Or.inr (Or.inr (Or.inl c_6)))))⟩), trivial⟩, hS.F ht⟩) hS.2.2 dX10_isAct_53
            · refine lv_iload_n hx hb dX10_isAct_36 rfl (lv_at hl 0 rfl) ?_
              refine lv_bipush (v := 113) hx hb dX10_isAct_37 (by decide) ?_
              refine lv_icmp_eq (tgt := 48) hx hb dX10_isAct_39 (by decide) (fun c_7 => ?_) (fun c_7 => ?_)
              · refine lv_iconst (v := 1) hx hb dX10_isAct_48 (by decide) ?_
                refine lv_goto (tgt := 53) hx hb dX10_isAct_49 (by decide) ?_
                refine W.widen (k := 0) (n := 0) (Nat.le_of_ble_eq_true rfl) (Nat.le_of_ble_eq_true rfl) ?_
                exact W.zret (v := 1) hx hb hr (by decide) (fun t ht hW => ⟨⟨1, (), rfl, (by exact Or.inl ⟨rfl, Or.inr (Or.inr (Or.inr (Or.inr (Or.inr (Or.inr (Or.inl c_7))))))⟩), trivial⟩, hS.F ht⟩) hS.2.2 dX10_isAct_53
              · refine lv_iload_n hx hb dX10_isAct_42 rfl (lv_at hl 0 rfl) ?_
                refine lv_bipush (v := 107) hx hb dX10_isAct_43 (by decide) ?_
                refine lv_icmp_ne (tgt := 52) hx hb dX10_isAct_45 (by decide) (fun c_8 => ?_) (fun c_8 => ?_)
                · refine lv_iconst (v := 0) hx hb dX10_isAct_52 (by decide) ?_
                  refine W.widen (k := 0) (n := 0) (Nat.le_of_ble_eq_true rfl) (Nat.le_of_ble_eq_true rfl) ?_
                  exact W.zret (v := 0) hx hb hr (by decide) (fun t ht hW => ⟨⟨0, (), rfl, (by exact Or.inr ⟨rfl, (fun z => z.elim c_1 (fun z => z.elim c_2 (fun z => z.elim c_3 (fun z => z.elim c_4 (fun z => z.elim c_5 (fun z => z.elim c_6 (fun z => z.elim c_7 c_8)))))))⟩), trivial⟩, hS.F ht⟩) hS.2.2 dX10_isAct_53
                · refine lv_iconst (v := 1) hx hb dX10_isAct_48 (by decide) ?_
                  refine lv_goto (tgt := 53) hx hb dX10_isAct_49 (by decide) ?_
                  refine W.widen (k := 0) (n := 0) (Nat.le_of_ble_eq_true rfl) (Nat.le_of_ble_eq_true rfl) ?_
                  exact W.zret (v := 1) hx hb hr (by decide) (fun t ht hW => ⟨⟨1, (), rfl, (by exact Or.inl ⟨rfl, Or.inr (Or.inr (Or.inr (Or.inr (Or.inr (Or.inr (Or.inr (c_8)))))))⟩), trivial⟩, hS.F ht⟩) hS.2.2 dX10_isAct_53
abbrev cX10_seems : ByteArray := prog_1_method_3_code
def yX10_seems : MethodName := ⟨RX10, "seems", "(II)I"⟩
theorem dX10_seems_0 : decode cX10_seems 0 = .ok (.aload_n 0, 1) := by decide +kernel
theorem dX10_seems_1 : decode cX10_seems 1 = .ok (.iload_n 1, 1) := by decide +kernel
theorem dX10_seems_2 : decode cX10_seems 2 = .ok (.invokevirtual 99, 3) := by decide +kernel
theorem q_817 : (Cond.code yX10_requireRole cX10_requireRole 2 none) ∈ tw := tw_in (i := 817) (by decide +kernel) (by decide +kernel)
theorem q_814 : (Cond.methodLink "NightfallVillage" 99 yX10_requireRole) ∈ tw := tw_in (i := 814) (by decide +kernel) (by decide +kernel)
theorem q_816 : (Cond.instanceMethod yX10_requireRole) ∈ tw := tw_in (i := 816) (by decide +kernel) (by decide +kernel)
theorem qp_12 : (Cond.selects yX10_requireRole.cls yX10_requireRole yX10_requireRole) ∈ tw := tw_inP (i := 12) (by decide +kernel) (by decide +kernel)
set_option maxHeartbeats 4000000 in
set_option maxRecDepth 100000 in
theorem c_X_seems (l : Launch) (hst : l.stackTraces = false) (tE : Nat) (adK adV : Nat → Nat) (dC : Nat → ClassId) (dI : Nat → Nat → Nat) (h0 : Nat) (r0 : Nat) (d0 : Nat) (g0 : Nat) (g1 : Nat) (y1 : Nat) (s1 : Nat) (l1 : Nat) (w1 : Nat) (a1 : Nat) (a2 : Nat) (a3 : Nat) (a4 : Nat) (a5 : Nat) (a6 : Nat) (a7 : Nat) (b1 : Nat) (b2 : Nat) (b3 : Nat) (f0 : Nat) (n0 : Nat) (y0 : Nat) (z1 : Nat) (z2 : Nat) (z3 : Nat) (z4 : Nat) (z5 : Nat) (p1 : Int32) (p2 : Int32) (sz : Nat) : vx_Met l yX10_seems (Cond.code yX10_seems cX10_seems 3 (some .int) :: tw) ({ frames := 7, cells := 1, slots := 6, locals := 103 }) (va_Pc [.ref h0, .int p1, .int p2] (preR tE adK adV (dC, dI) [(h0, .inr (10, [.ref r0, .ref d0, .ref g0, .ref g1, .ref y1, .ref s1, .ref l1, .ref w1])), (r0, .inr (7, [.ref a1, .ref a2, .ref a3, .ref a4, .ref a5, .ref a6, .ref a7, .int 0])), (d0, .inr (2, [.ref b1, .ref b2, .ref b3, .int 0, .int (-1), .int (-1)])), (g0, .inr (4, [.ref f0, .ref n0, .ref y0, .int 0, .int 0, .int 0, .int 45])), (f0, .inr (3, [.ref r0, .ref d0, .ref z1, .ref z2, .ref z3, .ref z4, .ref z5, .int 0, .int 0]))] [] sz)) (va_Qi (fun (r : Int32) (_ : Unit) => False) (fun (_ : Unit) (_ : State) => True) (fun q : Nat => sz ≤ q)) (vx_X (fun _ : Unit => True) (fun E (_ : Unit) (_ : State) => E = "java/lang/IndexOutOfBoundsException") (fun q : Nat => sz ≤ q)) 1 6 (fun q : Nat => sz ≤ q) := by
  refine vx_ofW (cc := cX10_seems) (maxL := 3) (ret := (some .int)) (by decide) rfl ?_
  intro p e s m args below meth c s₁ B hml hte hv
  obtain ⟨rfl, hsz, hP, hK, ham⟩ := hv
  have hx := B.exec
  have hb := B.bytes
  have hr := B.returns
  have hts := atoms_spec B.pre
  have hq : ∀ w ∈ tw, w.before _ s = true := fun w h => hts w (List.mem_cons_of_mem _ h)
  have hown : s.vm.findClass RX10 = some m.cls := findClass_of_methodNamed B.named
  have hlocks := B.notSynchronized
  subst hsz
  generalize hAe : (fun q : Nat => s.heap.size ≤ q) = A at ham ⊢
  have hA : ∀ q : Nat, s.heap.size ≤ q → A q := fun q h => by rw [← hAe]; exact h
  have hS : va_S A s.heap s.heap [] := va_S.rf
  have hP : va_P (dC, dI) cls [(h0, .inr (10, [.ref r0, .ref d0, .ref g0, .ref g1, .ref y1, .ref s1, .ref l1, .ref w1])), (r0, .inr (7, [.ref a1, .ref a2, .ref a3, .ref a4, .ref a5, .ref a6, .ref a7, .int 0])), (d0, .inr (2, [.ref b1, .ref b2, .ref b3, .int 0, .int (-1), .int (-1)])), (g0, .inr (4, [.ref f0, .ref n0, .ref y0, .int 0, .int 0, .int 0, .int 45])), (f0, .inr (3, [.ref r0, .ref d0, .ref z1, .ref z2, .ref z3, .ref z4, .ref z5, .int 0, .int 0]))] s.heap := hP
  have hl := lv_entry ([.ref h0, .int p1, .int p2]) (n := 3) (Nat.le_of_ble_eq_true rfl)
  rw [lg_entry_eq]
  generalize (lg_sl ([.ref h0, .int p1, .int p2]) ++ List.replicate (3 - (lg_sl ([.ref h0, .int p1, .int p2])).length) Slot.unset).toArray = ls at hl ⊢
  have hl : lv_has ls 3 [(0, .ref h0), (1, .int p1), (2, .int p2)] := hl
  refine lv_aload_n hx hb dX10_seems_0 rfl (lv_at hl 0 rfl) ?_
  refine lv_iload_n hx hb dX10_seems_1 rfl (lv_at hl 1 rfl) ?_
  have hPc := hP.sub (ws' := [(h0, .inr (10, [.ref r0, .ref d0, .ref g0, .ref g1, .ref y1, .ref s1, .ref l1, .ref w1])), (r0, .inr (7, [.ref a1, .ref a2, .ref a3, .ref a4, .ref a5, .ref a6, .ref a7, .int 0]))]) [0, 1] rfl
  have hKc := hK.sub (tys' := []) [] rfl
  refine vx_callv (vx_runV (As := [.int p1]) (rest := []) ⟨hx, hb, hml, hown, hq⟩ (c_requireRole l hst tE adK adV dC dI h0 r0 d0 g0 g1 y1 s1 l1 w1 a1 a2 a3 a4 a5 a6 a7 p1 s.heap.size) (tcV 1 hq q_817 q_1 q_814 q_816 qp_12 rfl rfl (by decide +kernel) ⟨Nat.le_of_ble_eq_true rfl, Nat.le_of_ble_eq_true rfl⟩) (preR.V (va_recv hK hP (ci := 10) (q0 := 0) rfl rfl) (preR.of hPc hKc ham hS hA)) rfl rfl hl.1 rfl (lv_room (Nat.le_of_ble_eq_true rfl)) dX10_seems_2 ⟨Nat.le_of_ble_eq_true rfl, Nat.le_of_ble_eq_true rfl⟩) hS (fun q _ h => hA q (Nat.le_trans hS.1 h)) (fun q h => hA q (Nat.le_trans hS.1 h)) (fun q _ h => hA q (Nat.le_trans hS.1 h)) (fun E ce q9 u t H1 locs ht hvm hpx hB hz1 hk1 hS hce hcv hcl => ?_) (fun u t H1 locs ht hvm hw hB hz1 hk1 hS => ?_)
  · have hE : E = "java/lang/IndexOutOfBoundsException" := hB
    exact vx_out (fun x9 h9 => (hte x9 h9).elim) hlocks hce hcv hcl (vx_thru hE hS) hS.2.2 (Nat.le_of_ble_eq_true rfl) (Nat.le_of_ble_eq_true rfl)
  · exact (hw : False).elim
abbrev cX10_seat : ByteArray := prog_1_method_4_code
def yX10_seat : MethodName := ⟨RX10, "seat", "(I)I"⟩
theorem dX10_seat_0 : decode cX10_seat 0 = .ok (.aload_n 0, 1) := by decide +kernel
theorem dX10_seat_1 : decode cX10_seat 1 = .ok (.iload_n 1, 1) := by decide +kernel
theorem dX10_seat_2 : decode cX10_seat 2 = .ok (.invokevirtual 99, 3) := by decide +kernel
set_option maxHeartbeats 4000000 in
set_option maxRecDepth 100000 in
theorem c_X_seat (l : Launch) (hst : l.stackTraces = false) (tE : Nat) (adK adV : Nat → Nat) (dC : Nat → ClassId) (dI : Nat → Nat → Nat) (h0 : Nat) (r0 : Nat) (d0 : Nat) (g0 : Nat) (g1 : Nat) (y1 : Nat) (s1 : Nat) (l1 : Nat) (w1 : Nat) (a1 : Nat) (a2 : Nat) (a3 : Nat) (a4 : Nat) (a5 : Nat) (a6 : Nat) (a7 : Nat) (b1 : Nat) (b2 : Nat) (b3 : Nat) (f0 : Nat) (n0 : Nat) (y0 : Nat) (z1 : Nat) (z2 : Nat) (z3 : Nat) (z4 : Nat) (z5 : Nat) (p1 : Int32) (sz : Nat) : vx_Met l yX10_seat (Cond.code yX10_seat cX10_seat 3 (some .int) :: tw) ({ frames := 7, cells := 1, slots := 6, locals := 103 }) (va_Pc [.ref h0, .int p1] (preR tE adK adV (dC, dI) [(h0, .inr (10, [.ref r0, .ref d0, .ref g0, .ref g1, .ref y1, .ref s1, .ref l1, .ref w1])), (r0, .inr (7, [.ref a1, .ref a2, .ref a3, .ref a4, .ref a5, .ref a6, .ref a7, .int 0])), (d0, .inr (2, [.ref b1, .ref b2, .ref b3, .int 0, .int (-1), .int (-1)])), (g0, .inr (4, [.ref f0, .ref n0, .ref y0, .int 0, .int 0, .int 0, .int 45])), (f0, .inr (3, [.ref r0, .ref d0, .ref z1, .ref z2, .ref z3, .ref z4, .ref z5, .int 0, .int 0]))] [] sz)) (va_Qi (fun (r : Int32) (_ : Unit) => False) (fun (_ : Unit) (_ : State) => True) (fun q : Nat => sz ≤ q)) (vx_X (fun _ : Unit => True) (fun E (_ : Unit) (_ : State) => E = "java/lang/IndexOutOfBoundsException") (fun q : Nat => sz ≤ q)) 1 6 (fun q : Nat => sz ≤ q) := by
  refine vx_ofW (cc := cX10_seat) (maxL := 3) (ret := (some .int)) (by decide) rfl ?_
  intro p e s m args below meth c s₁ B hml hte hv
  obtain ⟨rfl, hsz, hP, hK, ham⟩ := hv
  have hx := B.exec
  have hb := B.bytes
  have hr := B.returns
  have hts := atoms_spec B.pre
  have hq : ∀ w ∈ tw, w.before _ s = true := fun w h => hts w (List.mem_cons_of_mem _ h)
  have hown : s.vm.findClass RX10 = some m.cls := findClass_of_methodNamed B.named
  have hlocks := B.notSynchronized
  subst hsz
  generalize hAe : (fun q : Nat => s.heap.size ≤ q) = A at ham ⊢
  have hA : ∀ q : Nat, s.heap.size ≤ q → A q := fun q h => by rw [← hAe]; exact h
  have hS : va_S A s.heap s.heap [] := va_S.rf
  have hP : va_P (dC, dI) cls [(h0, .inr (10, [.ref r0, .ref d0, .ref g0, .ref g1, .ref y1, .ref s1, .ref l1, .ref w1])), (r0, .inr (7, [.ref a1, .ref a2, .ref a3, .ref a4, .ref a5, .ref a6, .ref a7, .int 0])), (d0, .inr (2, [.ref b1, .ref b2, .ref b3, .int 0, .int (-1), .int (-1)])), (g0, .inr (4, [.ref f0, .ref n0, .ref y0, .int 0, .int 0, .int 0, .int 45])), (f0, .inr (3, [.ref r0, .ref d0, .ref z1, .ref z2, .ref z3, .ref z4, .ref z5, .int 0, .int 0]))] s.heap := hP
  have hl := lv_entry ([.ref h0, .int p1]) (n := 3) (Nat.le_of_ble_eq_true rfl)
  rw [lg_entry_eq]
  generalize (lg_sl ([.ref h0, .int p1]) ++ List.replicate (3 - (lg_sl ([.ref h0, .int p1])).length) Slot.unset).toArray = ls at hl ⊢
  have hl : lv_has ls 3 [(0, .ref h0), (1, .int p1)] := hl
  refine lv_aload_n hx hb dX10_seat_0 rfl (lv_at hl 0 rfl) ?_
  refine lv_iload_n hx hb dX10_seat_1 rfl (lv_at hl 1 rfl) ?_
  have hPc := hP.sub (ws' := [(h0, .inr (10, [.ref r0, .ref d0, .ref g0, .ref g1, .ref y1, .ref s1, .ref l1, .ref w1])), (r0, .inr (7, [.ref a1, .ref a2, .ref a3, .ref a4, .ref a5, .ref a6, .ref a7, .int 0]))]) [0, 1] rfl
  have hKc := hK.sub (tys' := []) [] rfl
  refine vx_callv (vx_runV (As := [.int p1]) (rest := []) ⟨hx, hb, hml, hown, hq⟩ (c_requireRole l hst tE adK adV dC dI h0 r0 d0 g0 g1 y1 s1 l1 w1 a1 a2 a3 a4 a5 a6 a7 p1 s.heap.size) (tcV 1 hq q_817 q_1 q_814 q_816 qp_12 rfl rfl (by decide +kernel) ⟨Nat.le_of_ble_eq_true rfl, Nat.le_of_ble_eq_true rfl⟩) (preR.V (va_recv hK hP (ci := 10) (q0 := 0) rfl rfl) (preR.of hPc hKc ham hS hA)) rfl rfl hl.1 rfl (lv_room (Nat.le_of_ble_eq_true rfl)) dX10_seat_2 ⟨Nat.le_of_ble_eq_true rfl, Nat.le_of_ble_eq_true rfl⟩) hS (fun q _ h => hA q (Nat.le_trans hS.1 h)) (fun q h => hA q (Nat.le_trans hS.1 h)) (fun q _ h => hA q (Nat.le_trans hS.1 h)) (fun E ce q9 u t H1 locs ht hvm hpx hB hz1 hk1 hS hce hcv hcl => ?_) (fun u t H1 locs ht hvm hw hB hz1 hk1 hS => ?_)
  · have hE : E = "java/lang/IndexOutOfBoundsException" := hB
    exact vx_out (fun x9 h9 => (hte x9 h9).elim) hlocks hce hcv hcl (vx_thru hE hS) hS.2.2 (Nat.le_of_ble_eq_true rfl) (Nat.le_of_ble_eq_true rfl)
  · exact (hw : False).elim
abbrev cX10_lovers : ByteArray := prog_1_method_5_code
def yX10_lovers : MethodName := ⟨RX10, "lovers", "(II)Z"⟩
theorem dX10_lovers_0 : decode cX10_lovers 0 = .ok (.aload_n 0, 1) := by decide +kernel
theorem dX10_lovers_1 : decode cX10_lovers 1 = .ok (.iload_n 1, 1) := by decide +kernel
theorem dX10_lovers_2 : decode cX10_lovers 2 = .ok (.iload_n 2, 1) := by decide +kernel
theorem dX10_lovers_3 : decode cX10_lovers 3 = .ok (.invokevirtual 119, 3) := by decide +kernel
theorem q_862 : (Cond.code yX10_requireTwoSeats cX10_requireTwoSeats 3 none) ∈ tw := tw_in (i := 862) (by decide +kernel) (by decide +kernel)
theorem q_859 : (Cond.methodLink "NightfallVillage" 119 yX10_requireTwoSeats) ∈ tw := tw_in (i := 859) (by decide +kernel) (by decide +kernel)
theorem q_861 : (Cond.instanceMethod yX10_requireTwoSeats) ∈ tw := tw_in (i := 861) (by decide +kernel) (by decide +kernel)
theorem qp_13 : (Cond.selects yX10_requireTwoSeats.cls yX10_requireTwoSeats yX10_requireTwoSeats) ∈ tw := tw_inP (i := 13) (by decide +kernel) (by decide +kernel)
set_option maxHeartbeats 4000000 in
set_option maxRecDepth 100000 in
theorem c_X_lovers (l : Launch) (hst : l.stackTraces = false) (tE : Nat) (adK adV : Nat → Nat) (dC : Nat → ClassId) (dI : Nat → Nat → Nat) (h0 : Nat) (r0 : Nat) (d0 : Nat) (g0 : Nat) (g1 : Nat) (y1 : Nat) (s1 : Nat) (l1 : Nat) (w1 : Nat) (a1 : Nat) (a2 : Nat) (a3 : Nat) (a4 : Nat) (a5 : Nat) (a6 : Nat) (a7 : Nat) (b1 : Nat) (b2 : Nat) (b3 : Nat) (f0 : Nat) (n0 : Nat) (y0 : Nat) (z1 : Nat) (z2 : Nat) (z3 : Nat) (z4 : Nat) (z5 : Nat) (p1 : Int32) (p2 : Int32) (sz : Nat) : vx_Met l yX10_lovers (Cond.code yX10_lovers cX10_lovers 3 (some .boolean) :: tw) ({ frames := 8, cells := 1, slots := 6, locals := 125 }) (va_Pc [.ref h0, .int p1, .int p2] (preR tE adK adV (dC, dI) [(h0, .inr (10, [.ref r0, .ref d0, .ref g0, .ref g1, .ref y1, .ref s1, .ref l1, .ref w1])), (r0, .inr (7, [.ref a1, .ref a2, .ref a3, .ref a4, .ref a5, .ref a6, .ref a7, .int 0])), (d0, .inr (2, [.ref b1, .ref b2, .ref b3, .int 0, .int (-1), .int (-1)])), (g0, .inr (4, [.ref f0, .ref n0, .ref y0, .int 0, .int 0, .int 0, .int 45])), (f0, .inr (3, [.ref r0, .ref d0, .ref z1, .ref z2, .ref z3, .ref z4, .ref z5, .int 0, .int 0]))] [] sz)) (va_Qi (fun (r : Int32) (_ : Unit) => False) (fun (_ : Unit) (_ : State) => True) (fun q : Nat => sz ≤ q)) (vx_X (fun _ : Unit => True) (fun E (_ : Unit) (_ : State) => E = "java/lang/IndexOutOfBoundsException") (fun q : Nat => sz ≤ q)) 1 6 (fun q : Nat => sz ≤ q) := by
  refine vx_ofW (cc := cX10_lovers) (maxL := 3) (ret := (some .boolean)) (by decide) rfl ?_
  intro p e s m args below meth c s₁ B hml hte hv
  obtain ⟨rfl, hsz, hP, hK, ham⟩ := hv
  have hx := B.exec
  have hb := B.bytes
  have hr := B.returns
  have hts := atoms_spec B.pre
  have hq : ∀ w ∈ tw, w.before _ s = true := fun w h => hts w (List.mem_cons_of_mem _ h)
  have hown : s.vm.findClass RX10 = some m.cls := findClass_of_methodNamed B.named
  have hlocks := B.notSynchronized
  subst hsz
  generalize hAe : (fun q : Nat => s.heap.size ≤ q) = A at ham ⊢
  have hA : ∀ q : Nat, s.heap.size ≤ q → A q := fun q h => by rw [← hAe]; exact h
  have hS : va_S A s.heap s.heap [] := va_S.rf
  have hP : va_P (dC, dI) cls [(h0, .inr (10, [.ref r0, .ref d0, .ref g0, .ref g1, .ref y1, .ref s1, .ref l1, .ref w1])), (r0, .inr (7, [.ref a1, .ref a2, .ref a3, .ref a4, .ref a5, .ref a6, .ref a7, .int 0])), (d0, .inr (2, [.ref b1, .ref b2, .ref b3, .int 0, .int (-1), .int (-1)])), (g0, .inr (4, [.ref f0, .ref n0, .ref y0, .int 0, .int 0, .int 0, .int 45])), (f0, .inr (3, [.ref r0, .ref d0, .ref z1, .ref z2, .ref z3, .ref z4, .ref z5, .int 0, .int 0]))] s.heap := hP
  have hl := lv_entry ([.ref h0, .int p1, .int p2]) (n := 3) (Nat.le_of_ble_eq_true rfl)
  rw [lg_entry_eq]
  generalize (lg_sl ([.ref h0, .int p1, .int p2]) ++ List.replicate (3 - (lg_sl ([.ref h0, .int p1, .int p2])).length) Slot.unset).toArray = ls at hl ⊢
  have hl : lv_has ls 3 [(0, .ref h0), (1, .int p1), (2, .int p2)] := hl
  refine lv_aload_n hx hb dX10_lovers_0 rfl (lv_at hl 0 rfl) ?_
  refine lv_iload_n hx hb dX10_lovers_1 rfl (lv_at hl 1 rfl) ?_
  refine lv_iload_n hx hb dX10_lovers_2 rfl (lv_at hl 2 rfl) ?_
  have hPc := hP.sub (ws' := [(h0, .inr (10, [.ref r0, .ref d0, .ref g0, .ref g1, .ref y1, .ref s1, .ref l1, .ref w1])), (d0, .inr (2, [.ref b1, .ref b2, .ref b3, .int 0, .int (-1), .int (-1)]))]) [0, 2] rfl
  have hKc := hK.sub (tys' := []) [] rfl
  refine vx_callv (vx_runV (As := [.int p1, .int p2]) (rest := []) ⟨hx, hb, hml, hown, hq⟩ (c_requireTwoSeats l hst tE adK adV dC dI h0 r0 d0 g0 g1 y1 s1 l1 w1 b1 b2 b3 p1 p2 s.heap.size) (tcV 2 hq q_862 q_1 q_859 q_861 qp_13 rfl rfl (by decide +kernel) ⟨Nat.le_of_ble_eq_true rfl, Nat.le_of_ble_eq_true rfl⟩) (preR.V (va_recv hK hP (ci := 10) (q0 := 0) rfl rfl) (preR.of hPc hKc ham hS hA)) rfl rfl hl.1 rfl (lv_room (Nat.le_of_ble_eq_true rfl)) dX10_lovers_3 ⟨Nat.le_of_ble_eq_true rfl, Nat.le_of_ble_eq_true rfl⟩) hS (fun q _ h => hA q (Nat.le_trans hS.1 h)) (fun q h => hA q (Nat.le_trans hS.1 h)) (fun q _ h => hA q (Nat.le_trans hS.1 h)) (fun E ce q9 u t H1 locs ht hvm hpx hB hz1 hk1 hS hce hcv hcl => ?_) (fun u t H1 locs ht hvm hw hB hz1 hk1 hS => ?_)
  · have hE : E = "java/lang/IndexOutOfBoundsException" := hB
    exact vx_out (fun x9 h9 => (hte x9 h9).elim) hlocks hce hcv hcl (vx_thru hE hS) hS.2.2 (Nat.le_of_ble_eq_true rfl) (Nat.le_of_ble_eq_true rfl)
  · exact (hw : False).elim
abbrev cX10_mark : ByteArray := prog_1_method_6_code
def yX10_mark : MethodName := ⟨RX10, "mark", "(II)I"⟩
theorem dX10_mark_0 : decode cX10_mark 0 = .ok (.aload_n 0, 1) := by decide +kernel
theorem dX10_mark_1 : decode cX10_mark 1 = .ok (.iload_n 1, 1) := by decide +kernel
theorem dX10_mark_2 : decode cX10_mark 2 = .ok (.iload_n 2, 1) := by decide +kernel
theorem dX10_mark_3 : decode cX10_mark 3 = .ok (.invokevirtual 119, 3) := by decide +kernel
set_option maxHeartbeats 4000000 in
set_option maxRecDepth 100000 in
theorem c_X_mark (l : Launch) (hst : l.stackTraces = false) (tE : Nat) (adK adV : Nat → Nat) (dC : Nat → ClassId) (dI : Nat → Nat → Nat) (h0 : Nat) (r0 : Nat) (d0 : Nat) (g0 : Nat) (g1 : Nat) (y1 : Nat) (s1 : Nat) (l1 : Nat) (w1 : Nat) (a1 : Nat) (a2 : Nat) (a3 : Nat) (a4 : Nat) (a5 : Nat) (a6 : Nat) (a7 : Nat) (b1 : Nat) (b2 : Nat) (b3 : Nat) (f0 : Nat) (n0 : Nat) (y0 : Nat) (z1 : Nat) (z2 : Nat) (z3 : Nat) (z4 : Nat) (z5 : Nat) (p1 : Int32) (p2 : Int32) (sz : Nat) : vx_Met l yX10_mark (Cond.code yX10_mark cX10_mark 3 (some .int) :: tw) ({ frames := 8, cells := 1, slots := 6, locals := 125 }) (va_Pc [.ref h0, .int p1, .int p2] (preR tE adK adV (dC, dI) [(h0, .inr (10, [.ref r0, .ref d0, .ref g0, .ref g1, .ref y1, .ref s1, .ref l1, .ref w1])), (r0, .inr (7, [.ref a1, .ref a2, .ref a3, .ref a4, .ref a5, .ref a6, .ref a7, .int 0])), (d0, .inr (2, [.ref b1, .ref b2, .ref b3, .int 0, .int (-1), .int (-1)])), (g0, .inr (4, [.ref f0, .ref n0, .ref y0, .int 0, .int 0, .int 0, .int 45])), (f0, .inr (3, [.ref r0, .ref d0, .ref z1, .ref z2, .ref z3, .ref z4, .ref z5, .int 0, .int 0]))] [] sz)) (va_Qi (fun (r : Int32) (_ : Unit) => False) (fun (_ : Unit) (_ : State) => True) (fun q : Nat => sz ≤ q)) (vx_X (fun _ : Unit => True) (fun E (_ : Unit) (_ : State) => E = "java/lang/IndexOutOfBoundsException") (fun q : Nat => sz ≤ q)) 1 6 (fun q : Nat => sz ≤ q) := by
  refine vx_ofW (cc := cX10_mark) (maxL := 3) (ret := (some .int)) (by decide) rfl ?_
  intro p e s m args below meth c s₁ B hml hte hv
  obtain ⟨rfl, hsz, hP, hK, ham⟩ := hv
  have hx := B.exec
  have hb := B.bytes
  have hr := B.returns
  have hts := atoms_spec B.pre
  have hq : ∀ w ∈ tw, w.before _ s = true := fun w h => hts w (List.mem_cons_of_mem _ h)
  have hown : s.vm.findClass RX10 = some m.cls := findClass_of_methodNamed B.named
  have hlocks := B.notSynchronized
  subst hsz
  generalize hAe : (fun q : Nat => s.heap.size ≤ q) = A at ham ⊢
  have hA : ∀ q : Nat, s.heap.size ≤ q → A q := fun q h => by rw [← hAe]; exact h
  have hS : va_S A s.heap s.heap [] := va_S.rf
  have hP : va_P (dC, dI) cls [(h0, .inr (10, [.ref r0, .ref d0, .ref g0, .ref g1, .ref y1, .ref s1, .ref l1, .ref w1])), (r0, .inr (7, [.ref a1, .ref a2, .ref a3, .ref a4, .ref a5, .ref a6, .ref a7, .int 0])), (d0, .inr (2, [.ref b1, .ref b2, .ref b3, .int 0, .int (-1), .int (-1)])), (g0, .inr (4, [.ref f0, .ref n0, .ref y0, .int 0, .int 0, .int 0, .int 45])), (f0, .inr (3, [.ref r0, .ref d0, .ref z1, .ref z2, .ref z3, .ref z4, .ref z5, .int 0, .int 0]))] s.heap := hP
  have hl := lv_entry ([.ref h0, .int p1, .int p2]) (n := 3) (Nat.le_of_ble_eq_true rfl)
  rw [lg_entry_eq]
  generalize (lg_sl ([.ref h0, .int p1, .int p2]) ++ List.replicate (3 - (lg_sl ([.ref h0, .int p1, .int p2])).length) Slot.unset).toArray = ls at hl ⊢
  have hl : lv_has ls 3 [(0, .ref h0), (1, .int p1), (2, .int p2)] := hl
  refine lv_aload_n hx hb dX10_mark_0 rfl (lv_at hl 0 rfl) ?_
  refine lv_iload_n hx hb dX10_mark_1 rfl (lv_at hl 1 rfl) ?_
  refine lv_iload_n hx hb dX10_mark_2 rfl (lv_at hl 2 rfl) ?_
  have hPc := hP.sub (ws' := [(h0, .inr (10, [.ref r0, .ref d0, .ref g0, .ref g1, .ref y1, .ref s1, .ref l1, .ref w1])), (d0, .inr (2, [.ref b1, .ref b2, .ref b3, .int 0, .int (-1), .int (-1)]))]) [0, 2] rfl
  have hKc := hK.sub (tys' := []) [] rfl
  refine vx_callv (vx_runV (As := [.int p1, .int p2]) (rest := []) ⟨hx, hb, hml, hown, hq⟩ (c_requireTwoSeats l hst tE adK adV dC dI h0 r0 d0 g0 g1 y1 s1 l1 w1 b1 b2 b3 p1 p2 s.heap.size) (tcV 2 hq q_862 q_1 q_859 q_861 qp_13 rfl rfl (by decide +kernel) ⟨Nat.le_of_ble_eq_true rfl, Nat.le_of_ble_eq_true rfl⟩) (preR.V (va_recv hK hP (ci := 10) (q0 := 0) rfl rfl) (preR.of hPc hKc ham hS hA)) rfl rfl hl.1 rfl (lv_room (Nat.le_of_ble_eq_true rfl)) dX10_mark_3 ⟨Nat.le_of_ble_eq_true rfl, Nat.le_of_ble_eq_true rfl⟩) hS (fun q _ h => hA q (Nat.le_trans hS.1 h)) (fun q h => hA q (Nat.le_trans hS.1 h)) (fun q _ h => hA q (Nat.le_trans hS.1 h)) (fun E ce q9 u t H1 locs ht hvm hpx hB hz1 hk1 hS hce hcv hcl => ?_) (fun u t H1 locs ht hvm hw hB hz1 hk1 hS => ?_)
  · have hE : E = "java/lang/IndexOutOfBoundsException" := hB
    exact vx_out (fun x9 h9 => (hte x9 h9).elim) hlocks hce hcv hcl (vx_thru hE hS) hS.2.2 (Nat.le_of_ble_eq_true rfl) (Nat.le_of_ble_eq_true rfl)
  · exact (hw : False).elim
abbrev cX10_heir : ByteArray := prog_1_method_7_code
def yX10_heir : MethodName := ⟨RX10, "heir", "(II)I"⟩
theorem dX10_heir_0 : decode cX10_heir 0 = .ok (.aload_n 0, 1) := by decide +kernel
theorem dX10_heir_1 : decode cX10_heir 1 = .ok (.iload_n 1, 1) := by decide +kernel
theorem dX10_heir_2 : decode cX10_heir 2 = .ok (.iload_n 2, 1) := by decide +kernel
theorem dX10_heir_3 : decode cX10_heir 3 = .ok (.invokevirtual 119, 3) := by decide +kernel
set_option maxHeartbeats 4000000 in
set_option maxRecDepth 100000 in
theorem c_X_heir (l : Launch) (hst : l.stackTraces = false) (tE : Nat) (adK adV : Nat → Nat) (dC : Nat → ClassId) (dI : Nat → Nat → Nat) (h0 : Nat) (r0 : Nat) (d0 : Nat) (g0 : Nat) (g1 : Nat) (y1 : Nat) (s1 : Nat) (l1 : Nat) (w1 : Nat) (a1 : Nat) (a2 : Nat) (a3 : Nat) (a4 : Nat) (a5 : Nat) (a6 : Nat) (a7 : Nat) (b1 : Nat) (b2 : Nat) (b3 : Nat) (f0 : Nat) (n0 : Nat) (y0 : Nat) (z1 : Nat) (z2 : Nat) (z3 : Nat) (z4 : Nat) (z5 : Nat) (p1 : Int32) (p2 : Int32) (sz : Nat) : vx_Met l yX10_heir (Cond.code yX10_heir cX10_heir 3 (some .int) :: tw) ({ frames := 8, cells := 1, slots := 6, locals := 125 }) (va_Pc [.ref h0, .int p1, .int p2] (preR tE adK adV (dC, dI) [(h0, .inr (10, [.ref r0, .ref d0, .ref g0, .ref g1, .ref y1, .ref s1, .ref l1, .ref w1])), (r0, .inr (7, [.ref a1, .ref a2, .ref a3, .ref a4, .ref a5, .ref a6, .ref a7, .int 0])), (d0, .inr (2, [.ref b1, .ref b2, .ref b3, .int 0, .int (-1), .int (-1)])), (g0, .inr (4, [.ref f0, .ref n0, .ref y0, .int 0, .int 0, .int 0, .int 45])), (f0, .inr (3, [.ref r0, .ref d0, .ref z1, .ref z2, .ref z3, .ref z4, .ref z5, .int 0, .int 0]))] [] sz)) (va_Qi (fun (r : Int32) (_ : Unit) => False) (fun (_ : Unit) (_ : State) => True) (fun q : Nat => sz ≤ q)) (vx_X (fun _ : Unit => True) (fun E (_ : Unit) (_ : State) => E = "java/lang/IndexOutOfBoundsException") (fun q : Nat => sz ≤ q)) 1 6 (fun q : Nat => sz ≤ q) := by
  refine vx_ofW (cc := cX10_heir) (maxL := 3) (ret := (some .int)) (by decide) rfl ?_
  intro p e s m args below meth c s₁ B hml hte hv
  obtain ⟨rfl, hsz, hP, hK, ham⟩ := hv
  have hx := B.exec
  have hb := B.bytes
  have hr := B.returns
  have hts := atoms_spec B.pre
  have hq : ∀ w ∈ tw, w.before _ s = true := fun w h => hts w (List.mem_cons_of_mem _ h)
  have hown : s.vm.findClass RX10 = some m.cls := findClass_of_methodNamed B.named
  have hlocks := B.notSynchronized
  subst hsz
  generalize hAe : (fun q : Nat => s.heap.size ≤ q) = A at ham ⊢
  have hA : ∀ q : Nat, s.heap.size ≤ q → A q := fun q h => by rw [← hAe]; exact h
  have hS : va_S A s.heap s.heap [] := va_S.rf
  have hP : va_P (dC, dI) cls [(h0, .inr (10, [.ref r0, .ref d0, .ref g0, .ref g1, .ref y1, .ref s1, .ref l1, .ref w1])), (r0, .inr (7, [.ref a1, .ref a2, .ref a3, .ref a4, .ref a5, .ref a6, .ref a7, .int 0])), (d0, .inr (2, [.ref b1, .ref b2, .ref b3, .int 0, .int (-1), .int (-1)])), (g0, .inr (4, [.ref f0, .ref n0, .ref y0, .int 0, .int 0, .int 0, .int 45])), (f0, .inr (3, [.ref r0, .ref d0, .ref z1, .ref z2, .ref z3, .ref z4, .ref z5, .int 0, .int 0]))] s.heap := hP
  have hl := lv_entry ([.ref h0, .int p1, .int p2]) (n := 3) (Nat.le_of_ble_eq_true rfl)
  rw [lg_entry_eq]
  generalize (lg_sl ([.ref h0, .int p1, .int p2]) ++ List.replicate (3 - (lg_sl ([.ref h0, .int p1, .int p2])).length) Slot.unset).toArray = ls at hl ⊢
  have hl : lv_has ls 3 [(0, .ref h0), (1, .int p1), (2, .int p2)] := hl
  refine lv_aload_n hx hb dX10_heir_0 rfl (lv_at hl 0 rfl) ?_
  refine lv_iload_n hx hb dX10_heir_1 rfl (lv_at hl 1 rfl) ?_
  refine lv_iload_n hx hb dX10_heir_2 rfl (lv_at hl 2 rfl) ?_
  have hPc := hP.sub (ws' := [(h0, .inr (10, [.ref r0, .ref d0, .ref g0, .ref g1, .ref y1, .ref s1, .ref l1, .ref w1])), (d0, .inr (2, [.ref b1, .ref b2, .ref b3, .int 0, .int (-1), .int (-1)]))]) [0, 2] rfl
  have hKc := hK.sub (tys' := []) [] rfl
  refine vx_callv (vx_runV (As := [.int p1, .int p2]) (rest := []) ⟨hx, hb, hml, hown, hq⟩ (c_requireTwoSeats l hst tE adK adV dC dI h0 r0 d0 g0 g1 y1 s1 l1 w1 b1 b2 b3 p1 p2 s.heap.size) (tcV 2 hq q_862 q_1 q_859 q_861 qp_13 rfl rfl (by decide +kernel) ⟨Nat.le_of_ble_eq_true rfl, Nat.le_of_ble_eq_true rfl⟩) (preR.V (va_recv hK hP (ci := 10) (q0 := 0) rfl rfl) (preR.of hPc hKc ham hS hA)) rfl rfl hl.1 rfl (lv_room (Nat.le_of_ble_eq_true rfl)) dX10_heir_3 ⟨Nat.le_of_ble_eq_true rfl, Nat.le_of_ble_eq_true rfl⟩) hS (fun q _ h => hA q (Nat.le_trans hS.1 h)) (fun q h => hA q (Nat.le_trans hS.1 h)) (fun q _ h => hA q (Nat.le_trans hS.1 h)) (fun E ce q9 u t H1 locs ht hvm hpx hB hz1 hk1 hS hce hcv hcl => ?_) (fun u t H1 locs ht hvm hw hB hz1 hk1 hS => ?_)
  · have hE : E = "java/lang/IndexOutOfBoundsException" := hB
    exact vx_out (fun x9 h9 => (hte x9 h9).elim) hlocks hce hcv hcl (vx_thru hE hS) hS.2.2 (Nat.le_of_ble_eq_true rfl) (Nat.le_of_ble_eq_true rfl)
  · exact (hw : False).elim
abbrev cX10_begin : ByteArray := prog_1_method_8_code
def yX10_begin : MethodName := ⟨RX10, "begin", "()I"⟩
theorem dX10_begin_0 : decode cX10_begin 0 = .ok (.aload_n 0, 1) := by decide +kernel
theorem dX10_begin_1 : decode cX10_begin 1 = .ok (.invokevirtual 83, 3) := by decide +kernel
theorem q_769 : (Cond.code yX10_requireNotBegun cX10_requireNotBegun 1 none) ∈ tw := tw_in (i := 769) (by decide +kernel) (by decide +kernel)
theorem q_766 : (Cond.methodLink "NightfallVillage" 83 yX10_requireNotBegun) ∈ tw := tw_in (i := 766) (by decide +kernel) (by decide +kernel)
theorem q_768 : (Cond.instanceMethod yX10_requireNotBegun) ∈ tw := tw_in (i := 768) (by decide +kernel) (by decide +kernel)
theorem qp_11 : (Cond.selects yX10_requireNotBegun.cls yX10_requireNotBegun yX10_requireNotBegun) ∈ tw := tw_inP (i := 11) (by decide +kernel) (by decide +kernel)
theorem dX10_begin_4 : decode cX10_begin 4 = .ok (.aload_n 0, 1) := by decide +kernel
theorem dX10_begin_5 : decode cX10_begin 5 = .ok (.getfield 19, 3) := by decide +kernel
theorem dX10_begin_8 : decode cX10_begin 8 = .ok (.getfield 107, 3) := by decide +kernel
theorem q_94 : (Cond.fieldLinkNest "NightfallVillage" 107 "NightfallVillage$Deal" "seats" "I" "NightfallVillage") ∈ tw := tw_in (i := 94) (by decide +kernel) (by decide +kernel)
theorem dX10_begin_11 : decode cX10_begin 11 = .ok (.iconst 3, 1) := by decide +kernel
theorem dX10_begin_12 : decode cX10_begin 12 = .ok (.if_icmp .ge 13, 3) := by decide +kernel
theorem dX10_begin_15 : decode cX10_begin 15 = .ok (.new 90, 3) := by decide +kernel
theorem sr_915 : Cond.stringRef "NightfallVillage" 157 "there are fewer than 3 seats" ∈ tables_1 := List.mem_of_getElem? (i := 915) (by decide +kernel)
theorem dX10_begin_18 : decode cX10_begin 18 = .ok (.dup, 1) := by decide +kernel
theorem dX10_begin_19 : decode cX10_begin 19 = .ok (.ldc 157, 2) := by decide +kernel
theorem dX10_begin_21 : decode cX10_begin 21 = .ok (.invokespecial 94, 3) := by decide +kernel
theorem dX10_begin_24 : decode cX10_begin 24 = .ok (.athrow, 1) := by decide +kernel
set_option maxHeartbeats 4000000 in
set_option maxRecDepth 100000 in
theorem c_X_begin (l : Launch) (hst : l.stackTraces = false) (tE : Nat) (adK adV : Nat → Nat) (dC : Nat → ClassId) (dI : Nat → Nat → Nat) (h0 : Nat) (r0 : Nat) (d0 : Nat) (g0 : Nat) (g1 : Nat) (y1 : Nat) (s1 : Nat) (l1 : Nat) (w1 : Nat) (a1 : Nat) (a2 : Nat) (a3 : Nat) (a4 : Nat) (a5 : Nat) (a6 : Nat) (a7 : Nat) (b1 : Nat) (b2 : Nat) (b3 : Nat) (f0 : Nat) (n0 : Nat) (y0 : Nat) (z1 : Nat) (z2 : Nat) (z3 : Nat) (z4 : Nat) (z5 : Nat) (sz : Nat) : vx_Met l yX10_begin (Cond.code yX10_begin cX10_begin 1 (some .int) :: tw) ({ frames := 6, cells := 1, slots := 6, locals := 82 }) (va_Pc [.ref h0] (preR tE adK adV (dC, dI) [(h0, .inr (10, [.ref r0, .ref d0, .ref g0, .ref g1, .ref y1, .ref s1, .ref l1, .ref w1])), (r0, .inr (7, [.ref a1, .ref a2, .ref a3, .ref a4, .ref a5, .ref a6, .ref a7, .int 0])), (d0, .inr (2, [.ref b1, .ref b2, .ref b3, .int 0, .int (-1), .int (-1)])), (g0, .inr (4, [.ref f0, .ref n0, .ref y0, .int 0, .int 0, .int 0, .int 45])), (f0, .inr (3, [.ref r0, .ref d0, .ref z1, .ref z2, .ref z3, .ref z4, .ref z5, .int 0, .int 0]))] [] sz)) (va_Qi (fun (r : Int32) (_ : Unit) => False) (fun (_ : Unit) (_ : State) => True) (fun q : Nat => sz ≤ q)) (vx_X (fun _ : Unit => True) (fun E (_ : Unit) (_ : State) => E = "java/lang/IllegalStateException") (fun q : Nat => sz ≤ q)) 1 6 (fun q : Nat => sz ≤ q) := by
  refine vx_ofW (cc := cX10_begin) (maxL := 1) (ret := (some .int)) (by decide) rfl ?_
  intro p e s m args below meth c s₁ B hml hte hv
  obtain ⟨rfl, hsz, hP, hK, ham⟩ := hv
  have hx := B.exec
  have hb := B.bytes
  have hr := B.returns
  have hts := atoms_spec B.pre
  have hq : ∀ w ∈ tw, w.before _ s = true := fun w h => hts w (List.mem_cons_of_mem _ h)
  have hown : s.vm.findClass RX10 = some m.cls := findClass_of_methodNamed B.named
  have hlocks := B.notSynchronized
  subst hsz
  generalize hAe : (fun q : Nat => s.heap.size ≤ q) = A at ham ⊢
  have hA : ∀ q : Nat, s.heap.size ≤ q → A q := fun q h => by rw [← hAe]; exact h
  have hS : va_S A s.heap s.heap [] := va_S.rf
  have hP : va_P (dC, dI) cls [(h0, .inr (10, [.ref r0, .ref d0, .ref g0, .ref g1, .ref y1, .ref s1, .ref l1, .ref w1])), (r0, .inr (7, [.ref a1, .ref a2, .ref a3, .ref a4, .ref a5, .ref a6, .ref a7, .int 0])), (d0, .inr (2, [.ref b1, .ref b2, .ref b3, .int 0, .int (-1), .int (-1)])), (g0, .inr (4, [.ref f0, .ref n0, .ref y0, .int 0, .int 0, .int 0, .int 45])), (f0, .inr (3, [.ref r0, .ref d0, .ref z1, .ref z2, .ref z3, .ref z4, .ref z5, .int 0, .int 0]))] s.heap := hP
  have hl := lv_entry ([.ref h0]) (n := 1) (Nat.le_of_ble_eq_true rfl)
  rw [lg_entry_eq]
  generalize (lg_sl ([.ref h0]) ++ List.replicate (1 - (lg_sl ([.ref h0])).length) Slot.unset).toArray = ls at hl ⊢
  have hl : lv_has ls 1 [(0, .ref h0)] := hl
  refine lv_aload_n hx hb dX10_begin_0 rfl (lv_at hl 0 rfl) ?_
  have hPc := hP.sub (ws' := [(h0, .inr (10, [.ref r0, .ref d0, .ref g0, .ref g1, .ref y1, .ref s1, .ref l1, .ref w1])), (g0, .inr (4, [.ref f0, .ref n0, .ref y0, .int 0, .int 0, .int 0, .int 45]))]) [0, 3] rfl
  have hKc := hK.sub (tys' := []) [] rfl
  refine va_callv (va_runV (As := []) (rest := []) ⟨hx, hb, hml, hown, hq⟩ (c_requireNotBegun l hst tE adK adV dC dI h0 r0 d0 g0 g1 y1 s1 l1 w1 f0 n0 y0 s.heap.size) (tcV 0 hq q_769 q_1 q_766 q_768 qp_11 rfl rfl (by decide +kernel) ⟨Nat.le_of_ble_eq_true rfl, Nat.le_of_ble_eq_true rfl⟩) (preR.V (va_recv hK hP (ci := 10) (q0 := 0) rfl rfl) (preR.of hPc hKc ham hS hA)) rfl rfl hl.1 rfl (lv_room (Nat.le_of_ble_eq_true rfl)) dX10_begin_1 ⟨Nat.le_of_ble_eq_true rfl, Nat.le_of_ble_eq_true rfl⟩) hS (fun q _ h => hA q (Nat.le_trans hS.1 h)) (fun q h => hA q (Nat.le_trans hS.1 h)) (fun u t H1 locs ht hvm hw hB hz1 hk1 hS => ?_)
  have hP : va_P (dC, dI) cls [(h0, .inr (10, [.ref r0, .ref d0, .ref g0, .ref g1, .ref y1, .ref s1, .ref l1, .ref w1])), (r0, .inr (7, [.ref a1, .ref a2, .ref a3, .ref a4, .ref a5, .ref a6, .ref a7, .int 0])), (d0, .inr (2, [.ref b1, .ref b2, .ref b3, .int 0, .int (-1), .int (-1)])), (g0, .inr (4, [.ref f0, .ref n0, .ref y0, .int 0, .int 0, .int 0, .int 45])), (f0, .inr (3, [.ref r0, .ref d0, .ref z1, .ref z2, .ref z3, .ref z4, .ref z5, .int 0, .int 0]))] H1 := ro_keep hP hk1
  generalize H1 = H at hP hS ⊢
  refine W.widen (k := 0) (n := 0) (Nat.le_of_ble_eq_true rfl) (Nat.le_of_ble_eq_true rfl) ?_
  refine lv_aload_n hx hb dX10_begin_4 rfl (lv_at hl 0 rfl) ?_
  refine va_get (D := (dC, dI)) (ci := 10) (v := .ref d0) (C := RX10) (T := TX10) (N := 8) hx hb hq i_X10 hown hK hP 0 rfl rfl 1 (by decide) (hq _ q_327) (fun _ h9 => h9) rfl dX10_begin_5 ?_
  refine va_getN (D := (dC, dI)) (host := "NightfallVillage") (ci := 2) (v := .int 0) (C := RX2) (T := TX2) (N := 6) hx hb hq i_X2 hown hK hP 2 rfl rfl 3 (by decide) (hq _ q_94) (fun _ h9 => h9) rfl dX10_begin_8 ?_
  refine lv_iconst (v := 3) hx hb dX10_begin_11 (by decide) ?_
  refine lv_icmp_ge (tgt := 25) hx hb dX10_begin_12 (by decide) (fun c_2 => ?_) (fun c_2 => ?_)
  · exact absurd c_2 (by decide)
  · obtain ⟨sa_3, hsa_3⟩ := ham.2.1 _ _ _ sr_915
    exact vx_throwS hx hb hst (own := RX10) (cls := "java/lang/IllegalStateException") (names := ["java/lang/RuntimeException", "java/lang/Exception"]) hown (by decide) (by decide) (hq _ q_786) (hq _ q_22) hsa_3 (fun w9 h9 => hq _ (at_X10_IllegalStateException_94_90 w9 h9)) at_X10_IllegalStateException_94_90_g ham.1.1 ham.1.2 hS (hl.1.trans hml.symm) dX10_begin_15 dX10_begin_18 dX10_begin_19 dX10_begin_21 dX10_begin_24 (fun x9 h9 => (hte x9 h9).elim) (Nat.le_of_ble_eq_true rfl) (Nat.le_of_ble_eq_true rfl) (Nat.le_of_ble_eq_true rfl) (Nat.le_of_ble_eq_true rfl) hlocks (vx_end hS) hS.2.2 (Nat.le_of_ble_eq_true rfl) (Nat.le_of_ble_eq_true rfl)
abbrev cX10_act : ByteArray := prog_1_method_9_code
def yX10_act : MethodName := ⟨RX10, "act", "(II)Z"⟩
theorem dX10_act_0 : decode cX10_act 0 = .ok (.aload_n 0, 1) := by decide +kernel
theorem dX10_act_1 : decode cX10_act 1 = .ok (.iload_n 1, 1) := by decide +kernel
theorem dX10_act_2 : decode cX10_act 2 = .ok (.invokevirtual 162, 3) := by decide +kernel
set_option maxHeartbeats 4000000 in
set_option maxRecDepth 100000 in
theorem c_X_act (l : Launch) (hst : l.stackTraces = false) (tE : Nat) (adK adV : Nat → Nat) (dC : Nat → ClassId) (dI : Nat → Nat → Nat) (h0 : Nat) (r0 : Nat) (d0 : Nat) (g0 : Nat) (g1 : Nat) (y1 : Nat) (s1 : Nat) (l1 : Nat) (w1 : Nat) (a1 : Nat) (a2 : Nat) (a3 : Nat) (a4 : Nat) (a5 : Nat) (a6 : Nat) (a7 : Nat) (b1 : Nat) (b2 : Nat) (b3 : Nat) (f0 : Nat) (n0 : Nat) (y0 : Nat) (z1 : Nat) (z2 : Nat) (z3 : Nat) (z4 : Nat) (z5 : Nat) (p1 : Int32) (p2 : Int32) (sz : Nat) : vx_Met l yX10_act (Cond.code yX10_act cX10_act 3 (some .boolean) :: tw) ({ frames := 7, cells := 1, slots := 6, locals := 103 }) (va_Pc [.ref h0, .int p1, .int p2] (preR tE adK adV (dC, dI) [(h0, .inr (10, [.ref r0, .ref d0, .ref g0, .ref g1, .ref y1, .ref s1, .ref l1, .ref w1])), (r0, .inr (7, [.ref a1, .ref a2, .ref a3, .ref a4, .ref a5, .ref a6, .ref a7, .int 0])), (d0, .inr (2, [.ref b1, .ref b2, .ref b3, .int 0, .int (-1), .int (-1)])), (g0, .inr (4, [.ref f0, .ref n0, .ref y0, .int 0, .int 0, .int 0, .int 45])), (f0, .inr (3, [.ref r0, .ref d0, .ref z1, .ref z2, .ref z3, .ref z4, .ref z5, .int 0, .int 0]))] [] sz)) (va_Qi (fun (r : Int32) (_ : Unit) => False) (fun (_ : Unit) (_ : State) => True) (fun q : Nat => sz ≤ q)) (vx_X (fun _ : Unit => True) (fun E (_ : Unit) (_ : State) => E = "java/lang/IndexOutOfBoundsException") (fun q : Nat => sz ≤ q)) 1 6 (fun q : Nat => sz ≤ q) := by
  refine vx_ofW (cc := cX10_act) (maxL := 3) (ret := (some .boolean)) (by decide) rfl ?_
  intro p e s m args below meth c s₁ B hml hte hv
  obtain ⟨rfl, hsz, hP, hK, ham⟩ := hv
  have hx := B.exec
  have hb := B.bytes
  have hr := B.returns
  have hts := atoms_spec B.pre
  have hq : ∀ w ∈ tw, w.before _ s = true := fun w h => hts w (List.mem_cons_of_mem _ h)
  have hown : s.vm.findClass RX10 = some m.cls := findClass_of_methodNamed B.named
  have hlocks := B.notSynchronized
  subst hsz
  generalize hAe : (fun q : Nat => s.heap.size ≤ q) = A at ham ⊢
  have hA : ∀ q : Nat, s.heap.size ≤ q → A q := fun q h => by rw [← hAe]; exact h
  have hS : va_S A s.heap s.heap [] := va_S.rf
  have hP : va_P (dC, dI) cls [(h0, .inr (10, [.ref r0, .ref d0, .ref g0, .ref g1, .ref y1, .ref s1, .ref l1, .ref w1])), (r0, .inr (7, [.ref a1, .ref a2, .ref a3, .ref a4, .ref a5, .ref a6, .ref a7, .int 0])), (d0, .inr (2, [.ref b1, .ref b2, .ref b3, .int 0, .int (-1), .int (-1)])), (g0, .inr (4, [.ref f0, .ref n0, .ref y0, .int 0, .int 0, .int 0, .int 45])), (f0, .inr (3, [.ref r0, .ref d0, .ref z1, .ref z2, .ref z3, .ref z4, .ref z5, .int 0, .int 0]))] s.heap := hP
  have hl := lv_entry ([.ref h0, .int p1, .int p2]) (n := 3) (Nat.le_of_ble_eq_true rfl)
  rw [lg_entry_eq]
  generalize (lg_sl ([.ref h0, .int p1, .int p2]) ++ List.replicate (3 - (lg_sl ([.ref h0, .int p1, .int p2])).length) Slot.unset).toArray = ls at hl ⊢
  have hl : lv_has ls 3 [(0, .ref h0), (1, .int p1), (2, .int p2)] := hl
  refine lv_aload_n hx hb dX10_act_0 rfl (lv_at hl 0 rfl) ?_
  refine lv_iload_n hx hb dX10_act_1 rfl (lv_at hl 1 rfl) ?_
  have hPc := hP.sub (ws' := [(h0, .inr (10, [.ref r0, .ref d0, .ref g0, .ref g1, .ref y1, .ref s1, .ref l1, .ref w1])), (d0, .inr (2, [.ref b1, .ref b2, .ref b3, .int 0, .int (-1), .int (-1)]))]) [0, 2] rfl
  have hKc := hK.sub (tys' := []) [] rfl
  refine vx_callv (vx_runV (As := [.int p1]) (rest := []) ⟨hx, hb, hml, hown, hq⟩ (c_requireSeat l hst tE adK adV dC dI h0 r0 d0 g0 g1 y1 s1 l1 w1 b1 b2 b3 p1 s.heap.size) (tcV 1 hq q_866 q_1 q_863 q_865 qp_14 rfl rfl (by decide +kernel) ⟨Nat.le_of_ble_eq_true rfl, Nat.le_of_ble_eq_true rfl⟩) (preR.V (va_recv hK hP (ci := 10) (q0 := 0) rfl rfl) (preR.of hPc hKc ham hS hA)) rfl rfl hl.1 rfl (lv_room (Nat.le_of_ble_eq_true rfl)) dX10_act_2 ⟨Nat.le_of_ble_eq_true rfl, Nat.le_of_ble_eq_true rfl⟩) hS (fun q _ h => hA q (Nat.le_trans hS.1 h)) (fun q h => hA q (Nat.le_trans hS.1 h)) (fun q _ h => hA q (Nat.le_trans hS.1 h)) (fun E ce q9 u t H1 locs ht hvm hpx hB hz1 hk1 hS hce hcv hcl => ?_) (fun u t H1 locs ht hvm hw hB hz1 hk1 hS => ?_)
  · have hE : E = "java/lang/IndexOutOfBoundsException" := hB
    exact vx_out (fun x9 h9 => (hte x9 h9).elim) hlocks hce hcv hcl (vx_thru hE hS) hS.2.2 (Nat.le_of_ble_eq_true rfl) (Nat.le_of_ble_eq_true rfl)
  · exact (hw : False).elim
abbrev cX10_dawn : ByteArray := prog_1_method_10_code
def yX10_dawn : MethodName := ⟨RX10, "dawn", "()I"⟩
theorem dX10_dawn_0 : decode cX10_dawn 0 = .ok (.aload_n 0, 1) := by decide +kernel
theorem dX10_dawn_1 : decode cX10_dawn 1 = .ok (.invokevirtual 165, 3) := by decide +kernel
theorem q_927 : (Cond.code yX10_requireRunning cX10_requireRunning 1 none) ∈ tw := tw_in (i := 927) (by decide +kernel) (by decide +kernel)
theorem q_924 : (Cond.methodLink "NightfallVillage" 165 yX10_requireRunning) ∈ tw := tw_in (i := 924) (by decide +kernel) (by decide +kernel)
theorem q_926 : (Cond.instanceMethod yX10_requireRunning) ∈ tw := tw_in (i := 926) (by decide +kernel) (by decide +kernel)
theorem qp_15 : (Cond.selects yX10_requireRunning.cls yX10_requireRunning yX10_requireRunning) ∈ tw := tw_inP (i := 15) (by decide +kernel) (by decide +kernel)
set_option maxHeartbeats 4000000 in
set_option maxRecDepth 100000 in
theorem c_X_dawn (l : Launch) (hst : l.stackTraces = false) (tE : Nat) (adK adV : Nat → Nat) (dC : Nat → ClassId) (dI : Nat → Nat → Nat) (h0 : Nat) (r0 : Nat) (d0 : Nat) (g0 : Nat) (g1 : Nat) (y1 : Nat) (s1 : Nat) (l1 : Nat) (w1 : Nat) (a1 : Nat) (a2 : Nat) (a3 : Nat) (a4 : Nat) (a5 : Nat) (a6 : Nat) (a7 : Nat) (b1 : Nat) (b2 : Nat) (b3 : Nat) (f0 : Nat) (n0 : Nat) (y0 : Nat) (z1 : Nat) (z2 : Nat) (z3 : Nat) (z4 : Nat) (z5 : Nat) (sz : Nat) : vx_Met l yX10_dawn (Cond.code yX10_dawn cX10_dawn 3 (some .int) :: tw) ({ frames := 7, cells := 1, slots := 6, locals := 102 }) (va_Pc [.ref h0] (preR tE adK adV (dC, dI) [(h0, .inr (10, [.ref r0, .ref d0, .ref g0, .ref g1, .ref y1, .ref s1, .ref l1, .ref w1])), (r0, .inr (7, [.ref a1, .ref a2, .ref a3, .ref a4, .ref a5, .ref a6, .ref a7, .int 0])), (d0, .inr (2, [.ref b1, .ref b2, .ref b3, .int 0, .int (-1), .int (-1)])), (g0, .inr (4, [.ref f0, .ref n0, .ref y0, .int 0, .int 0, .int 0, .int 45])), (f0, .inr (3, [.ref r0, .ref d0, .ref z1, .ref z2, .ref z3, .ref z4, .ref z5, .int 0, .int 0]))] [] sz)) (va_Qi (fun (r : Int32) (_ : Unit) => False) (fun (_ : Unit) (_ : State) => True) (fun q : Nat => sz ≤ q)) (vx_X (fun _ : Unit => True) (fun E (_ : Unit) (_ : State) => E = "java/lang/IllegalStateException") (fun q : Nat => sz ≤ q)) 1 6 (fun q : Nat => sz ≤ q) := by
  refine vx_ofW (cc := cX10_dawn) (maxL := 3) (ret := (some .int)) (by decide) rfl ?_
  intro p e s m args below meth c s₁ B hml hte hv
  obtain ⟨rfl, hsz, hP, hK, ham⟩ := hv
  have hx := B.exec
  have hb := B.bytes
  have hr := B.returns
  have hts := atoms_spec B.pre
  have hq : ∀ w ∈ tw, w.before _ s = true := fun w h => hts w (List.mem_cons_of_mem _ h)
  have hown : s.vm.findClass RX10 = some m.cls := findClass_of_methodNamed B.named
  have hlocks := B.notSynchronized
  subst hsz
  generalize hAe : (fun q : Nat => s.heap.size ≤ q) = A at ham ⊢
  have hA : ∀ q : Nat, s.heap.size ≤ q → A q := fun q h => by rw [← hAe]; exact h
  have hS : va_S A s.heap s.heap [] := va_S.rf
  have hP : va_P (dC, dI) cls [(h0, .inr (10, [.ref r0, .ref d0, .ref g0, .ref g1, .ref y1, .ref s1, .ref l1, .ref w1])), (r0, .inr (7, [.ref a1, .ref a2, .ref a3, .ref a4, .ref a5, .ref a6, .ref a7, .int 0])), (d0, .inr (2, [.ref b1, .ref b2, .ref b3, .int 0, .int (-1), .int (-1)])), (g0, .inr (4, [.ref f0, .ref n0, .ref y0, .int 0, .int 0, .int 0, .int 45])), (f0, .inr (3, [.ref r0, .ref d0, .ref z1, .ref z2, .ref z3, .ref z4, .ref z5, .int 0, .int 0]))] s.heap := hP
  have hl := lv_entry ([.ref h0]) (n := 3) (Nat.le_of_ble_eq_true rfl)
  rw [lg_entry_eq]
  generalize (lg_sl ([.ref h0]) ++ List.replicate (3 - (lg_sl ([.ref h0])).length) Slot.unset).toArray = ls at hl ⊢
  have hl : lv_has ls 3 [(0, .ref h0)] := hl
  refine lv_aload_n hx hb dX10_dawn_0 rfl (lv_at hl 0 rfl) ?_
  have hPc := hP.sub (ws' := [(h0, .inr (10, [.ref r0, .ref d0, .ref g0, .ref g1, .ref y1, .ref s1, .ref l1, .ref w1])), (g0, .inr (4, [.ref f0, .ref n0, .ref y0, .int 0, .int 0, .int 0, .int 45]))]) [0, 3] rfl
  have hKc := hK.sub (tys' := []) [] rfl
  refine vx_callv (vx_runV (As := []) (rest := []) ⟨hx, hb, hml, hown, hq⟩ (c_requireRunning l hst tE adK adV dC dI h0 r0 d0 g0 g1 y1 s1 l1 w1 f0 n0 y0 s.heap.size) (tcV 0 hq q_927 q_1 q_924 q_926 qp_15 rfl rfl (by decide +kernel) ⟨Nat.le_of_ble_eq_true rfl, Nat.le_of_ble_eq_true rfl⟩) (preR.V (va_recv hK hP (ci := 10) (q0 := 0) rfl rfl) (preR.of hPc hKc ham hS hA)) rfl rfl hl.1 rfl (lv_room (Nat.le_of_ble_eq_true rfl)) dX10_dawn_1 ⟨Nat.le_of_ble_eq_true rfl, Nat.le_of_ble_eq_true rfl⟩) hS (fun q _ h => hA q (Nat.le_trans hS.1 h)) (fun q h => hA q (Nat.le_trans hS.1 h)) (fun q _ h => hA q (Nat.le_trans hS.1 h)) (fun E ce q9 u t H1 locs ht hvm hpx hB hz1 hk1 hS hce hcv hcl => ?_) (fun u t H1 locs ht hvm hw hB hz1 hk1 hS => ?_)
  · have hE : E = "java/lang/IllegalStateException" := hB
    exact vx_out (fun x9 h9 => (hte x9 h9).elim) hlocks hce hcv hcl (vx_thru hE hS) hS.2.2 (Nat.le_of_ble_eq_true rfl) (Nat.le_of_ble_eq_true rfl)
  · exact (hw : False).elim
abbrev cX10_didAct : ByteArray := prog_1_method_11_code
def yX10_didAct : MethodName := ⟨RX10, "didAct", "(I)Z"⟩
theorem dX10_didAct_0 : decode cX10_didAct 0 = .ok (.aload_n 0, 1) := by decide +kernel
theorem dX10_didAct_1 : decode cX10_didAct 1 = .ok (.iload_n 1, 1) := by decide +kernel
theorem dX10_didAct_2 : decode cX10_didAct 2 = .ok (.invokevirtual 162, 3) := by decide +kernel
set_option maxHeartbeats 4000000 in
set_option maxRecDepth 100000 in
theorem c_X_didAct (l : Launch) (hst : l.stackTraces = false) (tE : Nat) (adK adV : Nat → Nat) (dC : Nat → ClassId) (dI : Nat → Nat → Nat) (h0 : Nat) (r0 : Nat) (d0 : Nat) (g0 : Nat) (g1 : Nat) (y1 : Nat) (s1 : Nat) (l1 : Nat) (w1 : Nat) (a1 : Nat) (a2 : Nat) (a3 : Nat) (a4 : Nat) (a5 : Nat) (a6 : Nat) (a7 : Nat) (b1 : Nat) (b2 : Nat) (b3 : Nat) (f0 : Nat) (n0 : Nat) (y0 : Nat) (z1 : Nat) (z2 : Nat) (z3 : Nat) (z4 : Nat) (z5 : Nat) (p1 : Int32) (sz : Nat) : vx_Met l yX10_didAct (Cond.code yX10_didAct cX10_didAct 2 (some .boolean) :: tw) ({ frames := 7, cells := 1, slots := 6, locals := 103 }) (va_Pc [.ref h0, .int p1] (preR tE adK adV (dC, dI) [(h0, .inr (10, [.ref r0, .ref d0, .ref g0, .ref g1, .ref y1, .ref s1, .ref l1, .ref w1])), (r0, .inr (7, [.ref a1, .ref a2, .ref a3, .ref a4, .ref a5, .ref a6, .ref a7, .int 0])), (d0, .inr (2, [.ref b1, .ref b2, .ref b3, .int 0, .int (-1), .int (-1)])), (g0, .inr (4, [.ref f0, .ref n0, .ref y0, .int 0, .int 0, .int 0, .int 45])), (f0, .inr (3, [.ref r0, .ref d0, .ref z1, .ref z2, .ref z3, .ref z4, .ref z5, .int 0, .int 0]))] [] sz)) (va_Qi (fun (r : Int32) (_ : Unit) => False) (fun (_ : Unit) (_ : State) => True) (fun q : Nat => sz ≤ q)) (vx_X (fun _ : Unit => True) (fun E (_ : Unit) (_ : State) => E = "java/lang/IndexOutOfBoundsException") (fun q : Nat => sz ≤ q)) 1 6 (fun q : Nat => sz ≤ q) := by
  refine vx_ofW (cc := cX10_didAct) (maxL := 2) (ret := (some .boolean)) (by decide) rfl ?_
  intro p e s m args below meth c s₁ B hml hte hv
  obtain ⟨rfl, hsz, hP, hK, ham⟩ := hv
  have hx := B.exec
  have hb := B.bytes
  have hr := B.returns
  have hts := atoms_spec B.pre
  have hq : ∀ w ∈ tw, w.before _ s = true := fun w h => hts w (List.mem_cons_of_mem _ h)
  have hown : s.vm.findClass RX10 = some m.cls := findClass_of_methodNamed B.named
  have hlocks := B.notSynchronized
  subst hsz
  generalize hAe : (fun q : Nat => s.heap.size ≤ q) = A at ham ⊢
  have hA : ∀ q : Nat, s.heap.size ≤ q → A q := fun q h => by rw [← hAe]; exact h
  have hS : va_S A s.heap s.heap [] := va_S.rf
  have hP : va_P (dC, dI) cls [(h0, .inr (10, [.ref r0, .ref d0, .ref g0, .ref g1, .ref y1, .ref s1, .ref l1, .ref w1])), (r0, .inr (7, [.ref a1, .ref a2, .ref a3, .ref a4, .ref a5, .ref a6, .ref a7, .int 0])), (d0, .inr (2, [.ref b1, .ref b2, .ref b3, .int 0, .int (-1), .int (-1)])), (g0, .inr (4, [.ref f0, .ref n0, .ref y0, .int 0, .int 0, .int 0, .int 45])), (f0, .inr (3, [.ref r0, .ref d0, .ref z1, .ref z2, .ref z3, .ref z4, .ref z5, .int 0, .int 0]))] s.heap := hP
  have hl := lv_entry ([.ref h0, .int p1]) (n := 2) (Nat.le_of_ble_eq_true rfl)
  rw [lg_entry_eq]
  generalize (lg_sl ([.ref h0, .int p1]) ++ List.replicate (2 - (lg_sl ([.ref h0, .int p1])).length) Slot.unset).toArray = ls at hl ⊢
  have hl : lv_has ls 2 [(0, .ref h0), (1, .int p1)] := hl
  refine lv_aload_n hx hb dX10_didAct_0 rfl (lv_at hl 0 rfl) ?_
  refine lv_iload_n hx hb dX10_didAct_1 rfl (lv_at hl 1 rfl) ?_
  have hPc := hP.sub (ws' := [(h0, .inr (10, [.ref r0, .ref d0, .ref g0, .ref g1, .ref y1, .ref s1, .ref l1, .ref w1])), (d0, .inr (2, [.ref b1, .ref b2, .ref b3, .int 0, .int (-1), .int (-1)]))]) [0, 2] rfl
  have hKc := hK.sub (tys' := []) [] rfl
  refine vx_callv (vx_runV (As := [.int p1]) (rest := []) ⟨hx, hb, hml, hown, hq⟩ (c_requireSeat l hst tE adK adV dC dI h0 r0 d0 g0 g1 y1 s1 l1 w1 b1 b2 b3 p1 s.heap.size) (tcV 1 hq q_866 q_1 q_863 q_865 qp_14 rfl rfl (by decide +kernel) ⟨Nat.le_of_ble_eq_true rfl, Nat.le_of_ble_eq_true rfl⟩) (preR.V (va_recv hK hP (ci := 10) (q0 := 0) rfl rfl) (preR.of hPc hKc ham hS hA)) rfl rfl hl.1 rfl (lv_room (Nat.le_of_ble_eq_true rfl)) dX10_didAct_2 ⟨Nat.le_of_ble_eq_true rfl, Nat.le_of_ble_eq_true rfl⟩) hS (fun q _ h => hA q (Nat.le_trans hS.1 h)) (fun q h => hA q (Nat.le_trans hS.1 h)) (fun q _ h => hA q (Nat.le_trans hS.1 h)) (fun E ce q9 u t H1 locs ht hvm hpx hB hz1 hk1 hS hce hcv hcl => ?_) (fun u t H1 locs ht hvm hw hB hz1 hk1 hS => ?_)
  · have hE : E = "java/lang/IndexOutOfBoundsException" := hB
    exact vx_out (fun x9 h9 => (hte x9 h9).elim) hlocks hce hcv hcl (vx_thru hE hS) hS.2.2 (Nat.le_of_ble_eq_true rfl) (Nat.le_of_ble_eq_true rfl)
  · exact (hw : False).elim
abbrev cX10_told : ByteArray := prog_1_method_12_code
def yX10_told : MethodName := ⟨RX10, "told", "(II)C"⟩
theorem dX10_told_0 : decode cX10_told 0 = .ok (.aload_n 0, 1) := by decide +kernel
theorem dX10_told_1 : decode cX10_told 1 = .ok (.iload_n 1, 1) := by decide +kernel
theorem dX10_told_2 : decode cX10_told 2 = .ok (.invokevirtual 162, 3) := by decide +kernel
set_option maxHeartbeats 4000000 in
set_option maxRecDepth 100000 in
theorem c_X_told (l : Launch) (hst : l.stackTraces = false) (tE : Nat) (adK adV : Nat → Nat) (dC : Nat → ClassId) (dI : Nat → Nat → Nat) (h0 : Nat) (r0 : Nat) (d0 : Nat) (g0 : Nat) (g1 : Nat) (y1 : Nat) (s1 : Nat) (l1 : Nat) (w1 : Nat) (a1 : Nat) (a2 : Nat) (a3 : Nat) (a4 : Nat) (a5 : Nat) (a6 : Nat) (a7 : Nat) (b1 : Nat) (b2 : Nat) (b3 : Nat) (f0 : Nat) (n0 : Nat) (y0 : Nat) (z1 : Nat) (z2 : Nat) (z3 : Nat) (z4 : Nat) (z5 : Nat) (p1 : Int32) (p2 : Int32) (sz : Nat) : vx_Met l yX10_told (Cond.code yX10_told cX10_told 3 (some .char) :: tw) ({ frames := 7, cells := 1, slots := 6, locals := 103 }) (va_Pc [.ref h0, .int p1, .int p2] (preR tE adK adV (dC, dI) [(h0, .inr (10, [.ref r0, .ref d0, .ref g0, .ref g1, .ref y1, .ref s1, .ref l1, .ref w1])), (r0, .inr (7, [.ref a1, .ref a2, .ref a3, .ref a4, .ref a5, .ref a6, .ref a7, .int 0])), (d0, .inr (2, [.ref b1, .ref b2, .ref b3, .int 0, .int (-1), .int (-1)])), (g0, .inr (4, [.ref f0, .ref n0, .ref y0, .int 0, .int 0, .int 0, .int 45])), (f0, .inr (3, [.ref r0, .ref d0, .ref z1, .ref z2, .ref z3, .ref z4, .ref z5, .int 0, .int 0]))] [] sz)) (va_Qi (fun (r : Int32) (_ : Unit) => False) (fun (_ : Unit) (_ : State) => True) (fun q : Nat => sz ≤ q)) (vx_X (fun _ : Unit => True) (fun E (_ : Unit) (_ : State) => E = "java/lang/IndexOutOfBoundsException") (fun q : Nat => sz ≤ q)) 1 6 (fun q : Nat => sz ≤ q) := by
  refine vx_ofW (cc := cX10_told) (maxL := 3) (ret := (some .char)) (by decide) rfl ?_
  intro p e s m args below meth c s₁ B hml hte hv
  obtain ⟨rfl, hsz, hP, hK, ham⟩ := hv
  have hx := B.exec
  have hb := B.bytes
  have hr := B.returns
  have hts := atoms_spec B.pre
  have hq : ∀ w ∈ tw, w.before _ s = true := fun w h => hts w (List.mem_cons_of_mem _ h)
  have hown : s.vm.findClass RX10 = some m.cls := findClass_of_methodNamed B.named
  have hlocks := B.notSynchronized
  subst hsz
  generalize hAe : (fun q : Nat => s.heap.size ≤ q) = A at ham ⊢
  have hA : ∀ q : Nat, s.heap.size ≤ q → A q := fun q h => by rw [← hAe]; exact h
  have hS : va_S A s.heap s.heap [] := va_S.rf
  have hP : va_P (dC, dI) cls [(h0, .inr (10, [.ref r0, .ref d0, .ref g0, .ref g1, .ref y1, .ref s1, .ref l1, .ref w1])), (r0, .inr (7, [.ref a1, .ref a2, .ref a3, .ref a4, .ref a5, .ref a6, .ref a7, .int 0])), (d0, .inr (2, [.ref b1, .ref b2, .ref b3, .int 0, .int (-1), .int (-1)])), (g0, .inr (4, [.ref f0, .ref n0, .ref y0, .int 0, .int 0, .int 0, .int 45])), (f0, .inr (3, [.ref r0, .ref d0, .ref z1, .ref z2, .ref z3, .ref z4, .ref z5, .int 0, .int 0]))] s.heap := hP
  have hl := lv_entry ([.ref h0, .int p1, .int p2]) (n := 3) (Nat.le_of_ble_eq_true rfl)
  rw [lg_entry_eq]
  generalize (lg_sl ([.ref h0, .int p1, .int p2]) ++ List.replicate (3 - (lg_sl ([.ref h0, .int p1, .int p2])).length) Slot.unset).toArray = ls at hl ⊢
  have hl : lv_has ls 3 [(0, .ref h0), (1, .int p1), (2, .int p2)] := hl
  refine lv_aload_n hx hb dX10_told_0 rfl (lv_at hl 0 rfl) ?_
  refine lv_iload_n hx hb dX10_told_1 rfl (lv_at hl 1 rfl) ?_
  have hPc := hP.sub (ws' := [(h0, .inr (10, [.ref r0, .ref d0, .ref g0, .ref g1, .ref y1, .ref s1, .ref l1, .ref w1])), (d0, .inr (2, [.ref b1, .ref b2, .ref b3, .int 0, .int (-1), .int (-1)]))]) [0, 2] rfl
  have hKc := hK.sub (tys' := []) [] rfl
  refine vx_callv (vx_runV (As := [.int p1]) (rest := []) ⟨hx, hb, hml, hown, hq⟩ (c_requireSeat l hst tE adK adV dC dI h0 r0 d0 g0 g1 y1 s1 l1 w1 b1 b2 b3 p1 s.heap.size) (tcV 1 hq q_866 q_1 q_863 q_865 qp_14 rfl rfl (by decide +kernel) ⟨Nat.le_of_ble_eq_true rfl, Nat.le_of_ble_eq_true rfl⟩) (preR.V (va_recv hK hP (ci := 10) (q0 := 0) rfl rfl) (preR.of hPc hKc ham hS hA)) rfl rfl hl.1 rfl (lv_room (Nat.le_of_ble_eq_true rfl)) dX10_told_2 ⟨Nat.le_of_ble_eq_true rfl, Nat.le_of_ble_eq_true rfl⟩) hS (fun q _ h => hA q (Nat.le_trans hS.1 h)) (fun q h => hA q (Nat.le_trans hS.1 h)) (fun q _ h => hA q (Nat.le_trans hS.1 h)) (fun E ce q9 u t H1 locs ht hvm hpx hB hz1 hk1 hS hce hcv hcl => ?_) (fun u t H1 locs ht hvm hw hB hz1 hk1 hS => ?_)
  · have hE : E = "java/lang/IndexOutOfBoundsException" := hB
    exact vx_out (fun x9 h9 => (hte x9 h9).elim) hlocks hce hcv hcl (vx_thru hE hS) hS.2.2 (Nat.le_of_ble_eq_true rfl) (Nat.le_of_ble_eq_true rfl)
  · exact (hw : False).elim
abbrev cX10_seen : ByteArray := prog_1_method_13_code
def yX10_seen : MethodName := ⟨RX10, "seen", "(II)I"⟩
theorem dX10_seen_0 : decode cX10_seen 0 = .ok (.aload_n 0, 1) := by decide +kernel
theorem dX10_seen_1 : decode cX10_seen 1 = .ok (.iload_n 1, 1) := by decide +kernel
theorem dX10_seen_2 : decode cX10_seen 2 = .ok (.invokevirtual 162, 3) := by decide +kernel
set_option maxHeartbeats 4000000 in
set_option maxRecDepth 100000 in
theorem c_X_seen (l : Launch) (hst : l.stackTraces = false) (tE : Nat) (adK adV : Nat → Nat) (dC : Nat → ClassId) (dI : Nat → Nat → Nat) (h0 : Nat) (r0 : Nat) (d0 : Nat) (g0 : Nat) (g1 : Nat) (y1 : Nat) (s1 : Nat) (l1 : Nat) (w1 : Nat) (a1 : Nat) (a2 : Nat) (a3 : Nat) (a4 : Nat) (a5 : Nat) (a6 : Nat) (a7 : Nat) (b1 : Nat) (b2 : Nat) (b3 : Nat) (f0 : Nat) (n0 : Nat) (y0 : Nat) (z1 : Nat) (z2 : Nat) (z3 : Nat) (z4 : Nat) (z5 : Nat) (p1 : Int32) (p2 : Int32) (sz : Nat) : vx_Met l yX10_seen (Cond.code yX10_seen cX10_seen 3 (some .int) :: tw) ({ frames := 7, cells := 1, slots := 6, locals := 103 }) (va_Pc [.ref h0, .int p1, .int p2] (preR tE adK adV (dC, dI) [(h0, .inr (10, [.ref r0, .ref d0, .ref g0, .ref g1, .ref y1, .ref s1, .ref l1, .ref w1])), (r0, .inr (7, [.ref a1, .ref a2, .ref a3, .ref a4, .ref a5, .ref a6, .ref a7, .int 0])), (d0, .inr (2, [.ref b1, .ref b2, .ref b3, .int 0, .int (-1), .int (-1)])), (g0, .inr (4, [.ref f0, .ref n0, .ref y0, .int 0, .int 0, .int 0, .int 45])), (f0, .inr (3, [.ref r0, .ref d0, .ref z1, .ref z2, .ref z3, .ref z4, .ref z5, .int 0, .int 0]))] [] sz)) (va_Qi (fun (r : Int32) (_ : Unit) => False) (fun (_ : Unit) (_ : State) => True) (fun q : Nat => sz ≤ q)) (vx_X (fun _ : Unit => True) (fun E (_ : Unit) (_ : State) => E = "java/lang/IndexOutOfBoundsException") (fun q : Nat => sz ≤ q)) 1 6 (fun q : Nat => sz ≤ q) := by
  refine vx_ofW (cc := cX10_seen) (maxL := 3) (ret := (some .int)) (by decide) rfl ?_
  intro p e s m args below meth c s₁ B hml hte hv
  obtain ⟨rfl, hsz, hP, hK, ham⟩ := hv
  have hx := B.exec
  have hb := B.bytes
  have hr := B.returns
  have hts := atoms_spec B.pre
  have hq : ∀ w ∈ tw, w.before _ s = true := fun w h => hts w (List.mem_cons_of_mem _ h)
  have hown : s.vm.findClass RX10 = some m.cls := findClass_of_methodNamed B.named
  have hlocks := B.notSynchronized
  subst hsz
  generalize hAe : (fun q : Nat => s.heap.size ≤ q) = A at ham ⊢
  have hA : ∀ q : Nat, s.heap.size ≤ q → A q := fun q h => by rw [← hAe]; exact h
  have hS : va_S A s.heap s.heap [] := va_S.rf
  have hP : va_P (dC, dI) cls [(h0, .inr (10, [.ref r0, .ref d0, .ref g0, .ref g1, .ref y1, .ref s1, .ref l1, .ref w1])), (r0, .inr (7, [.ref a1, .ref a2, .ref a3, .ref a4, .ref a5, .ref a6, .ref a7, .int 0])), (d0, .inr (2, [.ref b1, .ref b2, .ref b3, .int 0, .int (-1), .int (-1)])), (g0, .inr (4, [.ref f0, .ref n0, .ref y0, .int 0, .int 0, .int 0, .int 45])), (f0, .inr (3, [.ref r0, .ref d0, .ref z1, .ref z2, .ref z3, .ref z4, .ref z5, .int 0, .int 0]))] s.heap := hP
  have hl := lv_entry ([.ref h0, .int p1, .int p2]) (n := 3) (Nat.le_of_ble_eq_true rfl)
  rw [lg_entry_eq]
  generalize (lg_sl ([.ref h0, .int p1, .int p2]) ++ List.replicate (3 - (lg_sl ([.ref h0, .int p1, .int p2])).length) Slot.unset).toArray = ls at hl ⊢
  have hl : lv_has ls 3 [(0, .ref h0), (1, .int p1), (2, .int p2)] := hl
  refine lv_aload_n hx hb dX10_seen_0 rfl (lv_at hl 0 rfl) ?_
  refine lv_iload_n hx hb dX10_seen_1 rfl (lv_at hl 1 rfl) ?_
  have hPc := hP.sub (ws' := [(h0, .inr (10, [.ref r0, .ref d0, .ref g0, .ref g1, .ref y1, .ref s1, .ref l1, .ref w1])), (d0, .inr (2, [.ref b1, .ref b2, .ref b3, .int 0, .int (-1), .int (-1)]))]) [0, 2] rfl
  have hKc := hK.sub (tys' := []) [] rfl
  refine vx_callv (vx_runV (As := [.int p1]) (rest := []) ⟨hx, hb, hml, hown, hq⟩ (c_requireSeat l hst tE adK adV dC dI h0 r0 d0 g0 g1 y1 s1 l1 w1 b1 b2 b3 p1 s.heap.size) (tcV 1 hq q_866 q_1 q_863 q_865 qp_14 rfl rfl (by decide +kernel) ⟨Nat.le_of_ble_eq_true rfl, Nat.le_of_ble_eq_true rfl⟩) (preR.V (va_recv hK hP (ci := 10) (q0 := 0) rfl rfl) (preR.of hPc hKc ham hS hA)) rfl rfl hl.1 rfl (lv_room (Nat.le_of_ble_eq_true rfl)) dX10_seen_2 ⟨Nat.le_of_ble_eq_true rfl, Nat.le_of_ble_eq_true rfl⟩) hS (fun q _ h => hA q (Nat.le_trans hS.1 h)) (fun q h => hA q (Nat.le_trans hS.1 h)) (fun q _ h => hA q (Nat.le_trans hS.1 h)) (fun E ce q9 u t H1 locs ht hvm hpx hB hz1 hk1 hS hce hcv hcl => ?_) (fun u t H1 locs ht hvm hw hB hz1 hk1 hS => ?_)
  · have hE : E = "java/lang/IndexOutOfBoundsException" := hB
    exact vx_out (fun x9 h9 => (hte x9 h9).elim) hlocks hce hcv hcl (vx_thru hE hS) hS.2.2 (Nat.le_of_ble_eq_true rfl) (Nat.le_of_ble_eq_true rfl)
  · exact (hw : False).elim
abbrev cX10_vote : ByteArray := prog_1_method_14_code
def yX10_vote : MethodName := ⟨RX10, "vote", "(II)Z"⟩
theorem dX10_vote_0 : decode cX10_vote 0 = .ok (.aload_n 0, 1) := by decide +kernel
theorem dX10_vote_1 : decode cX10_vote 1 = .ok (.iload_n 1, 1) := by decide +kernel
theorem dX10_vote_2 : decode cX10_vote 2 = .ok (.invokevirtual 162, 3) := by decide +kernel
set_option maxHeartbeats 4000000 in
set_option maxRecDepth 100000 in
theorem c_X_vote (l : Launch) (hst : l.stackTraces = false) (tE : Nat) (adK adV : Nat → Nat) (dC : Nat → ClassId) (dI : Nat → Nat → Nat) (h0 : Nat) (r0 : Nat) (d0 : Nat) (g0 : Nat) (g1 : Nat) (y1 : Nat) (s1 : Nat) (l1 : Nat) (w1 : Nat) (a1 : Nat) (a2 : Nat) (a3 : Nat) (a4 : Nat) (a5 : Nat) (a6 : Nat) (a7 : Nat) (b1 : Nat) (b2 : Nat) (b3 : Nat) (f0 : Nat) (n0 : Nat) (y0 : Nat) (z1 : Nat) (z2 : Nat) (z3 : Nat) (z4 : Nat) (z5 : Nat) (p1 : Int32) (p2 : Int32) (sz : Nat) : vx_Met l yX10_vote (Cond.code yX10_vote cX10_vote 3 (some .boolean) :: tw) ({ frames := 7, cells := 1, slots := 6, locals := 103 }) (va_Pc [.ref h0, .int p1, .int p2] (preR tE adK adV (dC, dI) [(h0, .inr (10, [.ref r0, .ref d0, .ref g0, .ref g1, .ref y1, .ref s1, .ref l1, .ref w1])), (r0, .inr (7, [.ref a1, .ref a2, .ref a3, .ref a4, .ref a5, .ref a6, .ref a7, .int 0])), (d0, .inr (2, [.ref b1, .ref b2, .ref b3, .int 0, .int (-1), .int (-1)])), (g0, .inr (4, [.ref f0, .ref n0, .ref y0, .int 0, .int 0, .int 0, .int 45])), (f0, .inr (3, [.ref r0, .ref d0, .ref z1, .ref z2, .ref z3, .ref z4, .ref z5, .int 0, .int 0]))] [] sz)) (va_Qi (fun (r : Int32) (_ : Unit) => False) (fun (_ : Unit) (_ : State) => True) (fun q : Nat => sz ≤ q)) (vx_X (fun _ : Unit => True) (fun E (_ : Unit) (_ : State) => E = "java/lang/IndexOutOfBoundsException") (fun q : Nat => sz ≤ q)) 1 6 (fun q : Nat => sz ≤ q) := by
  refine vx_ofW (cc := cX10_vote) (maxL := 3) (ret := (some .boolean)) (by decide) rfl ?_
  intro p e s m args below meth c s₁ B hml hte hv
  obtain ⟨rfl, hsz, hP, hK, ham⟩ := hv
  have hx := B.exec
  have hb := B.bytes
  have hr := B.returns
  have hts := atoms_spec B.pre
  have hq : ∀ w ∈ tw, w.before _ s = true := fun w h => hts w (List.mem_cons_of_mem _ h)
  have hown : s.vm.findClass RX10 = some m.cls := findClass_of_methodNamed B.named
  have hlocks := B.notSynchronized
  subst hsz
  generalize hAe : (fun q : Nat => s.heap.size ≤ q) = A at ham ⊢
  have hA : ∀ q : Nat, s.heap.size ≤ q → A q := fun q h => by rw [← hAe]; exact h
  have hS : va_S A s.heap s.heap [] := va_S.rf
  have hP : va_P (dC, dI) cls [(h0, .inr (10, [.ref r0, .ref d0, .ref g0, .ref g1, .ref y1, .ref s1, .ref l1, .ref w1])), (r0, .inr (7, [.ref a1, .ref a2, .ref a3, .ref a4, .ref a5, .ref a6, .ref a7, .int 0])), (d0, .inr (2, [.ref b1, .ref b2, .ref b3, .int 0, .int (-1), .int (-1)])), (g0, .inr (4, [.ref f0, .ref n0, .ref y0, .int 0, .int 0, .int 0, .int 45])), (f0, .inr (3, [.ref r0, .ref d0, .ref z1, .ref z2, .ref z3, .ref z4, .ref z5, .int 0, .int 0]))] s.heap := hP
  have hl := lv_entry ([.ref h0, .int p1, .int p2]) (n := 3) (Nat.le_of_ble_eq_true rfl)
  rw [lg_entry_eq]
  generalize (lg_sl ([.ref h0, .int p1, .int p2]) ++ List.replicate (3 - (lg_sl ([.ref h0, .int p1, .int p2])).length) Slot.unset).toArray = ls at hl ⊢
  have hl : lv_has ls 3 [(0, .ref h0), (1, .int p1), (2, .int p2)] := hl
  refine lv_aload_n hx hb dX10_vote_0 rfl (lv_at hl 0 rfl) ?_
  refine lv_iload_n hx hb dX10_vote_1 rfl (lv_at hl 1 rfl) ?_
  have hPc := hP.sub (ws' := [(h0, .inr (10, [.ref r0, .ref d0, .ref g0, .ref g1, .ref y1, .ref s1, .ref l1, .ref w1])), (d0, .inr (2, [.ref b1, .ref b2, .ref b3, .int 0, .int (-1), .int (-1)]))]) [0, 2] rfl
  have hKc := hK.sub (tys' := []) [] rfl
  refine vx_callv (vx_runV (As := [.int p1]) (rest := []) ⟨hx, hb, hml, hown, hq⟩ (c_requireSeat l hst tE adK adV dC dI h0 r0 d0 g0 g1 y1 s1 l1 w1 b1 b2 b3 p1 s.heap.size) (tcV 1 hq q_866 q_1 q_863 q_865 qp_14 rfl rfl (by decide +kernel) ⟨Nat.le_of_ble_eq_true rfl, Nat.le_of_ble_eq_true rfl⟩) (preR.V (va_recv hK hP (ci := 10) (q0 := 0) rfl rfl) (preR.of hPc hKc ham hS hA)) rfl rfl hl.1 rfl (lv_room (Nat.le_of_ble_eq_true rfl)) dX10_vote_2 ⟨Nat.le_of_ble_eq_true rfl, Nat.le_of_ble_eq_true rfl⟩) hS (fun q _ h => hA q (Nat.le_trans hS.1 h)) (fun q h => hA q (Nat.le_trans hS.1 h)) (fun q _ h => hA q (Nat.le_trans hS.1 h)) (fun E ce q9 u t H1 locs ht hvm hpx hB hz1 hk1 hS hce hcv hcl => ?_) (fun u t H1 locs ht hvm hw hB hz1 hk1 hS => ?_)
  · have hE : E = "java/lang/IndexOutOfBoundsException" := hB
    exact vx_out (fun x9 h9 => (hte x9 h9).elim) hlocks hce hcv hcl (vx_thru hE hS) hS.2.2 (Nat.le_of_ble_eq_true rfl) (Nat.le_of_ble_eq_true rfl)
  · exact (hw : False).elim
abbrev cX10_votes : ByteArray := prog_1_method_15_code
def yX10_votes : MethodName := ⟨RX10, "votes", "(I)I"⟩
theorem dX10_votes_0 : decode cX10_votes 0 = .ok (.aload_n 0, 1) := by decide +kernel
theorem dX10_votes_1 : decode cX10_votes 1 = .ok (.iload_n 1, 1) := by decide +kernel
theorem dX10_votes_2 : decode cX10_votes 2 = .ok (.invokevirtual 162, 3) := by decide +kernel
set_option maxHeartbeats 4000000 in
set_option maxRecDepth 100000 in
theorem c_X_votes (l : Launch) (hst : l.stackTraces = false) (tE : Nat) (adK adV : Nat → Nat) (dC : Nat → ClassId) (dI : Nat → Nat → Nat) (h0 : Nat) (r0 : Nat) (d0 : Nat) (g0 : Nat) (g1 : Nat) (y1 : Nat) (s1 : Nat) (l1 : Nat) (w1 : Nat) (a1 : Nat) (a2 : Nat) (a3 : Nat) (a4 : Nat) (a5 : Nat) (a6 : Nat) (a7 : Nat) (b1 : Nat) (b2 : Nat) (b3 : Nat) (f0 : Nat) (n0 : Nat) (y0 : Nat) (z1 : Nat) (z2 : Nat) (z3 : Nat) (z4 : Nat) (z5 : Nat) (p1 : Int32) (sz : Nat) : vx_Met l yX10_votes (Cond.code yX10_votes cX10_votes 2 (some .int) :: tw) ({ frames := 7, cells := 1, slots := 6, locals := 103 }) (va_Pc [.ref h0, .int p1] (preR tE adK adV (dC, dI) [(h0, .inr (10, [.ref r0, .ref d0, .ref g0, .ref g1, .ref y1, .ref s1, .ref l1, .ref w1])), (r0, .inr (7, [.ref a1, .ref a2, .ref a3, .ref a4, .ref a5, .ref a6, .ref a7, .int 0])), (d0, .inr (2, [.ref b1, .ref b2, .ref b3, .int 0, .int (-1), .int (-1)])), (g0, .inr (4, [.ref f0, .ref n0, .ref y0, .int 0, .int 0, .int 0, .int 45])), (f0, .inr (3, [.ref r0, .ref d0, .ref z1, .ref z2, .ref z3, .ref z4, .ref z5, .int 0, .int 0]))] [] sz)) (va_Qi (fun (r : Int32) (_ : Unit) => False) (fun (_ : Unit) (_ : State) => True) (fun q : Nat => sz ≤ q)) (vx_X (fun _ : Unit => True) (fun E (_ : Unit) (_ : State) => E = "java/lang/IndexOutOfBoundsException") (fun q : Nat => sz ≤ q)) 1 6 (fun q : Nat => sz ≤ q) := by
  refine vx_ofW (cc := cX10_votes) (maxL := 2) (ret := (some .int)) (by decide) rfl ?_
  intro p e s m args below meth c s₁ B hml hte hv
  obtain ⟨rfl, hsz, hP, hK, ham⟩ := hv
  have hx := B.exec
  have hb := B.bytes
  have hr := B.returns
  have hts := atoms_spec B.pre
  have hq : ∀ w ∈ tw, w.before _ s = true := fun w h => hts w (List.mem_cons_of_mem _ h)
  have hown : s.vm.findClass RX10 = some m.cls := findClass_of_methodNamed B.named
  have hlocks := B.notSynchronized
  subst hsz
  generalize hAe : (fun q : Nat => s.heap.size ≤ q) = A at ham ⊢
  have hA : ∀ q : Nat, s.heap.size ≤ q → A q := fun q h => by rw [← hAe]; exact h
  have hS : va_S A s.heap s.heap [] := va_S.rf
  have hP : va_P (dC, dI) cls [(h0, .inr (10, [.ref r0, .ref d0, .ref g0, .ref g1, .ref y1, .ref s1, .ref l1, .ref w1])), (r0, .inr (7, [.ref a1, .ref a2, .ref a3, .ref a4, .ref a5, .ref a6, .ref a7, .int 0])), (d0, .inr (2, [.ref b1, .ref b2, .ref b3, .int 0, .int (-1), .int (-1)])), (g0, .inr (4, [.ref f0, .ref n0, .ref y0, .int 0, .int 0, .int 0, .int 45])), (f0, .inr (3, [.ref r0, .ref d0, .ref z1, .ref z2, .ref z3, .ref z4, .ref z5, .int 0, .int 0]))] s.heap := hP
  have hl := lv_entry ([.ref h0, .int p1]) (n := 2) (Nat.le_of_ble_eq_true rfl)
  rw [lg_entry_eq]
  generalize (lg_sl ([.ref h0, .int p1]) ++ List.replicate (2 - (lg_sl ([.ref h0, .int p1])).length) Slot.unset).toArray = ls at hl ⊢
  have hl : lv_has ls 2 [(0, .ref h0), (1, .int p1)] := hl
  refine lv_aload_n hx hb dX10_votes_0 rfl (lv_at hl 0 rfl) ?_
  refine lv_iload_n hx hb dX10_votes_1 rfl (lv_at hl 1 rfl) ?_
  have hPc := hP.sub (ws' := [(h0, .inr (10, [.ref r0, .ref d0, .ref g0, .ref g1, .ref y1, .ref s1, .ref l1, .ref w1])), (d0, .inr (2, [.ref b1, .ref b2, .ref b3, .int 0, .int (-1), .int (-1)]))]) [0, 2] rfl
  have hKc := hK.sub (tys' := []) [] rfl
  refine vx_callv (vx_runV (As := [.int p1]) (rest := []) ⟨hx, hb, hml, hown, hq⟩ (c_requireSeat l hst tE adK adV dC dI h0 r0 d0 g0 g1 y1 s1 l1 w1 b1 b2 b3 p1 s.heap.size) (tcV 1 hq q_866 q_1 q_863 q_865 qp_14 rfl rfl (by decide +kernel) ⟨Nat.le_of_ble_eq_true rfl, Nat.le_of_ble_eq_true rfl⟩) (preR.V (va_recv hK hP (ci := 10) (q0 := 0) rfl rfl) (preR.of hPc hKc ham hS hA)) rfl rfl hl.1 rfl (lv_room (Nat.le_of_ble_eq_true rfl)) dX10_votes_2 ⟨Nat.le_of_ble_eq_true rfl, Nat.le_of_ble_eq_true rfl⟩) hS (fun q _ h => hA q (Nat.le_trans hS.1 h)) (fun q h => hA q (Nat.le_trans hS.1 h)) (fun q _ h => hA q (Nat.le_trans hS.1 h)) (fun E ce q9 u t H1 locs ht hvm hpx hB hz1 hk1 hS hce hcv hcl => ?_) (fun u t H1 locs ht hvm hw hB hz1 hk1 hS => ?_)
  · have hE : E = "java/lang/IndexOutOfBoundsException" := hB
    exact vx_out (fun x9 h9 => (hte x9 h9).elim) hlocks hce hcv hcl (vx_thru hE hS) hS.2.2 (Nat.le_of_ble_eq_true rfl) (Nat.le_of_ble_eq_true rfl)
  · exact (hw : False).elim
abbrev cX10_dusk : ByteArray := prog_1_method_16_code
def yX10_dusk : MethodName := ⟨RX10, "dusk", "()I"⟩
theorem dX10_dusk_0 : decode cX10_dusk 0 = .ok (.aload_n 0, 1) := by decide +kernel
theorem dX10_dusk_1 : decode cX10_dusk 1 = .ok (.invokevirtual 165, 3) := by decide +kernel
set_option maxHeartbeats 4000000 in
set_option maxRecDepth 100000 in
theorem c_X_dusk (l : Launch) (hst : l.stackTraces = false) (tE : Nat) (adK adV : Nat → Nat) (dC : Nat → ClassId) (dI : Nat → Nat → Nat) (h0 : Nat) (r0 : Nat) (d0 : Nat) (g0 : Nat) (g1 : Nat) (y1 : Nat) (s1 : Nat) (l1 : Nat) (w1 : Nat) (a1 : Nat) (a2 : Nat) (a3 : Nat) (a4 : Nat) (a5 : Nat) (a6 : Nat) (a7 : Nat) (b1 : Nat) (b2 : Nat) (b3 : Nat) (f0 : Nat) (n0 : Nat) (y0 : Nat) (z1 : Nat) (z2 : Nat) (z3 : Nat) (z4 : Nat) (z5 : Nat) (sz : Nat) : vx_Met l yX10_dusk (Cond.code yX10_dusk cX10_dusk 1 (some .int) :: tw) ({ frames := 7, cells := 1, slots := 6, locals := 102 }) (va_Pc [.ref h0] (preR tE adK adV (dC, dI) [(h0, .inr (10, [.ref r0, .ref d0, .ref g0, .ref g1, .ref y1, .ref s1, .ref l1, .ref w1])), (r0, .inr (7, [.ref a1, .ref a2, .ref a3, .ref a4, .ref a5, .ref a6, .ref a7, .int 0])), (d0, .inr (2, [.ref b1, .ref b2, .ref b3, .int 0, .int (-1), .int (-1)])), (g0, .inr (4, [.ref f0, .ref n0, .ref y0, .int 0, .int 0, .int 0, .int 45])), (f0, .inr (3, [.ref r0, .ref d0, .ref z1, .ref z2, .ref z3, .ref z4, .ref z5, .int 0, .int 0]))] [] sz)) (va_Qi (fun (r : Int32) (_ : Unit) => False) (fun (_ : Unit) (_ : State) => True) (fun q : Nat => sz ≤ q)) (vx_X (fun _ : Unit => True) (fun E (_ : Unit) (_ : State) => E = "java/lang/IllegalStateException") (fun q : Nat => sz ≤ q)) 1 6 (fun q : Nat => sz ≤ q) := by
  refine vx_ofW (cc := cX10_dusk) (maxL := 1) (ret := (some .int)) (by decide) rfl ?_
  intro p e s m args below meth c s₁ B hml hte hv
  obtain ⟨rfl, hsz, hP, hK, ham⟩ := hv
  have hx := B.exec
  have hb := B.bytes
  have hr := B.returns
  have hts := atoms_spec B.pre
  have hq : ∀ w ∈ tw, w.before _ s = true := fun w h => hts w (List.mem_cons_of_mem _ h)
  have hown : s.vm.findClass RX10 = some m.cls := findClass_of_methodNamed B.named
  have hlocks := B.notSynchronized
  subst hsz
  generalize hAe : (fun q : Nat => s.heap.size ≤ q) = A at ham ⊢
  have hA : ∀ q : Nat, s.heap.size ≤ q → A q := fun q h => by rw [← hAe]; exact h
  have hS : va_S A s.heap s.heap [] := va_S.rf
  have hP : va_P (dC, dI) cls [(h0, .inr (10, [.ref r0, .ref d0, .ref g0, .ref g1, .ref y1, .ref s1, .ref l1, .ref w1])), (r0, .inr (7, [.ref a1, .ref a2, .ref a3, .ref a4, .ref a5, .ref a6, .ref a7, .int 0])), (d0, .inr (2, [.ref b1, .ref b2, .ref b3, .int 0, .int (-1), .int (-1)])), (g0, .inr (4, [.ref f0, .ref n0, .ref y0, .int 0, .int 0, .int 0, .int 45])), (f0, .inr (3, [.ref r0, .ref d0, .ref z1, .ref z2, .ref z3, .ref z4, .ref z5, .int 0, .int 0]))] s.heap := hP
  have hl := lv_entry ([.ref h0]) (n := 1) (Nat.le_of_ble_eq_true rfl)
  rw [lg_entry_eq]
  generalize (lg_sl ([.ref h0]) ++ List.replicate (1 - (lg_sl ([.ref h0])).length) Slot.unset).toArray = ls at hl ⊢
  have hl : lv_has ls 1 [(0, .ref h0)] := hl
  refine lv_aload_n hx hb dX10_dusk_0 rfl (lv_at hl 0 rfl) ?_
  have hPc := hP.sub (ws' := [(h0, .inr (10, [.ref r0, .ref d0, .ref g0, .ref g1, .ref y1, .ref s1, .ref l1, .ref w1])), (g0, .inr (4, [.ref f0, .ref n0, .ref y0, .int 0, .int 0, .int 0, .int 45]))]) [0, 3] rfl
  have hKc := hK.sub (tys' := []) [] rfl
  refine vx_callv (vx_runV (As := []) (rest := []) ⟨hx, hb, hml, hown, hq⟩ (c_requireRunning l hst tE adK adV dC dI h0 r0 d0 g0 g1 y1 s1 l1 w1 f0 n0 y0 s.heap.size) (tcV 0 hq q_927 q_1 q_924 q_926 qp_15 rfl rfl (by decide +kernel) ⟨Nat.le_of_ble_eq_true rfl, Nat.le_of_ble_eq_true rfl⟩) (preR.V (va_recv hK hP (ci := 10) (q0 := 0) rfl rfl) (preR.of hPc hKc ham hS hA)) rfl rfl hl.1 rfl (lv_room (Nat.le_of_ble_eq_true rfl)) dX10_dusk_1 ⟨Nat.le_of_ble_eq_true rfl, Nat.le_of_ble_eq_true rfl⟩) hS (fun q _ h => hA q (Nat.le_trans hS.1 h)) (fun q h => hA q (Nat.le_trans hS.1 h)) (fun q _ h => hA q (Nat.le_trans hS.1 h)) (fun E ce q9 u t H1 locs ht hvm hpx hB hz1 hk1 hS hce hcv hcl => ?_) (fun u t H1 locs ht hvm hw hB hz1 hk1 hS => ?_)
  · have hE : E = "java/lang/IllegalStateException" := hB
    exact vx_out (fun x9 h9 => (hte x9 h9).elim) hlocks hce hcv hcl (vx_thru hE hS) hS.2.2 (Nat.le_of_ble_eq_true rfl) (Nat.le_of_ble_eq_true rfl)
  · exact (hw : False).elim
abbrev cX10_isNight : ByteArray := prog_1_method_17_code
def yX10_isNight : MethodName := ⟨RX10, "isNight", "()Z"⟩
theorem dX10_isNight_0 : decode cX10_isNight 0 = .ok (.aload_n 0, 1) := by decide +kernel
theorem dX10_isNight_1 : decode cX10_isNight 1 = .ok (.invokevirtual 165, 3) := by decide +kernel
set_option maxHeartbeats 4000000 in
set_option maxRecDepth 100000 in
theorem c_X_isNight (l : Launch) (hst : l.stackTraces = false) (tE : Nat) (adK adV : Nat → Nat) (dC : Nat → ClassId) (dI : Nat → Nat → Nat) (h0 : Nat) (r0 : Nat) (d0 : Nat) (g0 : Nat) (g1 : Nat) (y1 : Nat) (s1 : Nat) (l1 : Nat) (w1 : Nat) (a1 : Nat) (a2 : Nat) (a3 : Nat) (a4 : Nat) (a5 : Nat) (a6 : Nat) (a7 : Nat) (b1 : Nat) (b2 : Nat) (b3 : Nat) (f0 : Nat) (n0 : Nat) (y0 : Nat) (z1 : Nat) (z2 : Nat) (z3 : Nat) (z4 : Nat) (z5 : Nat) (sz : Nat) : vx_Met l yX10_isNight (Cond.code yX10_isNight cX10_isNight 1 (some .boolean) :: tw) ({ frames := 7, cells := 1, slots := 6, locals := 102 }) (va_Pc [.ref h0] (preR tE adK adV (dC, dI) [(h0, .inr (10, [.ref r0, .ref d0, .ref g0, .ref g1, .ref y1, .ref s1, .ref l1, .ref w1])), (r0, .inr (7, [.ref a1, .ref a2, .ref a3, .ref a4, .ref a5, .ref a6, .ref a7, .int 0])), (d0, .inr (2, [.ref b1, .ref b2, .ref b3, .int 0, .int (-1), .int (-1)])), (g0, .inr (4, [.ref f0, .ref n0, .ref y0, .int 0, .int 0, .int 0, .int 45])), (f0, .inr (3, [.ref r0, .ref d0, .ref z1, .ref z2, .ref z3, .ref z4, .ref z5, .int 0, .int 0]))] [] sz)) (va_Qi (fun (r : Int32) (_ : Unit) => False) (fun (_ : Unit) (_ : State) => True) (fun q : Nat => sz ≤ q)) (vx_X (fun _ : Unit => True) (fun E (_ : Unit) (_ : State) => E = "java/lang/IllegalStateException") (fun q : Nat => sz ≤ q)) 1 6 (fun q : Nat => sz ≤ q) := by
  refine vx_ofW (cc := cX10_isNight) (maxL := 1) (ret := (some .boolean)) (by decide) rfl ?_
  intro p e s m args below meth c s₁ B hml hte hv
  obtain ⟨rfl, hsz, hP, hK, ham⟩ := hv
  have hx := B.exec
  have hb := B.bytes
  have hr := B.returns
  have hts := atoms_spec B.pre
  have hq : ∀ w ∈ tw, w.before _ s = true := fun w h => hts w (List.mem_cons_of_mem _ h)
  have hown : s.vm.findClass RX10 = some m.cls := findClass_of_methodNamed B.named
  have hlocks := B.notSynchronized
  subst hsz
  generalize hAe : (fun q : Nat => s.heap.size ≤ q) = A at ham ⊢
  have hA : ∀ q : Nat, s.heap.size ≤ q → A q := fun q h => by rw [← hAe]; exact h
  have hS : va_S A s.heap s.heap [] := va_S.rf
  have hP : va_P (dC, dI) cls [(h0, .inr (10, [.ref r0, .ref d0, .ref g0, .ref g1, .ref y1, .ref s1, .ref l1, .ref w1])), (r0, .inr (7, [.ref a1, .ref a2, .ref a3, .ref a4, .ref a5, .ref a6, .ref a7, .int 0])), (d0, .inr (2, [.ref b1, .ref b2, .ref b3, .int 0, .int (-1), .int (-1)])), (g0, .inr (4, [.ref f0, .ref n0, .ref y0, .int 0, .int 0, .int 0, .int 45])), (f0, .inr (3, [.ref r0, .ref d0, .ref z1, .ref z2, .ref z3, .ref z4, .ref z5, .int 0, .int 0]))] s.heap := hP
  have hl := lv_entry ([.ref h0]) (n := 1) (Nat.le_of_ble_eq_true rfl)
  rw [lg_entry_eq]
  generalize (lg_sl ([.ref h0]) ++ List.replicate (1 - (lg_sl ([.ref h0])).length) Slot.unset).toArray = ls at hl ⊢
  have hl : lv_has ls 1 [(0, .ref h0)] := hl
  refine lv_aload_n hx hb dX10_isNight_0 rfl (lv_at hl 0 rfl) ?_
  have hPc := hP.sub (ws' := [(h0, .inr (10, [.ref r0, .ref d0, .ref g0, .ref g1, .ref y1, .ref s1, .ref l1, .ref w1])), (g0, .inr (4, [.ref f0, .ref n0, .ref y0, .int 0, .int 0, .int 0, .int 45]))]) [0, 3] rfl
  have hKc := hK.sub (tys' := []) [] rfl
  refine vx_callv (vx_runV (As := []) (rest := []) ⟨hx, hb, hml, hown, hq⟩ (c_requireRunning l hst tE adK adV dC dI h0 r0 d0 g0 g1 y1 s1 l1 w1 f0 n0 y0 s.heap.size) (tcV 0 hq q_927 q_1 q_924 q_926 qp_15 rfl rfl (by decide +kernel) ⟨Nat.le_of_ble_eq_true rfl, Nat.le_of_ble_eq_true rfl⟩) (preR.V (va_recv hK hP (ci := 10) (q0 := 0) rfl rfl) (preR.of hPc hKc ham hS hA)) rfl rfl hl.1 rfl (lv_room (Nat.le_of_ble_eq_true rfl)) dX10_isNight_1 ⟨Nat.le_of_ble_eq_true rfl, Nat.le_of_ble_eq_true rfl⟩) hS (fun q _ h => hA q (Nat.le_trans hS.1 h)) (fun q h => hA q (Nat.le_trans hS.1 h)) (fun q _ h => hA q (Nat.le_trans hS.1 h)) (fun E ce q9 u t H1 locs ht hvm hpx hB hz1 hk1 hS hce hcv hcl => ?_) (fun u t H1 locs ht hvm hw hB hz1 hk1 hS => ?_)
  · have hE : E = "java/lang/IllegalStateException" := hB
    exact vx_out (fun x9 h9 => (hte x9 h9).elim) hlocks hce hcv hcl (vx_thru hE hS) hS.2.2 (Nat.le_of_ble_eq_true rfl) (Nat.le_of_ble_eq_true rfl)
  · exact (hw : False).elim
abbrev cX10_number : ByteArray := prog_1_method_18_code
def yX10_number : MethodName := ⟨RX10, "number", "()I"⟩
theorem dX10_number_0 : decode cX10_number 0 = .ok (.aload_n 0, 1) := by decide +kernel
theorem dX10_number_1 : decode cX10_number 1 = .ok (.invokevirtual 244, 3) := by decide +kernel
theorem q_1063 : (Cond.code yX10_requireBegun cX10_requireBegun 1 none) ∈ tw := tw_in (i := 1063) (by decide +kernel) (by decide +kernel)
theorem q_1060 : (Cond.methodLink "NightfallVillage" 244 yX10_requireBegun) ∈ tw := tw_in (i := 1060) (by decide +kernel) (by decide +kernel)
theorem q_1062 : (Cond.instanceMethod yX10_requireBegun) ∈ tw := tw_in (i := 1062) (by decide +kernel) (by decide +kernel)
theorem qp_19 : (Cond.selects yX10_requireBegun.cls yX10_requireBegun yX10_requireBegun) ∈ tw := tw_inP (i := 19) (by decide +kernel) (by decide +kernel)
set_option maxHeartbeats 4000000 in
set_option maxRecDepth 100000 in
theorem c_X_number (l : Launch) (hst : l.stackTraces = false) (tE : Nat) (adK adV : Nat → Nat) (dC : Nat → ClassId) (dI : Nat → Nat → Nat) (h0 : Nat) (r0 : Nat) (d0 : Nat) (g0 : Nat) (g1 : Nat) (y1 : Nat) (s1 : Nat) (l1 : Nat) (w1 : Nat) (a1 : Nat) (a2 : Nat) (a3 : Nat) (a4 : Nat) (a5 : Nat) (a6 : Nat) (a7 : Nat) (b1 : Nat) (b2 : Nat) (b3 : Nat) (f0 : Nat) (n0 : Nat) (y0 : Nat) (z1 : Nat) (z2 : Nat) (z3 : Nat) (z4 : Nat) (z5 : Nat) (sz : Nat) : vx_Met l yX10_number (Cond.code yX10_number cX10_number 1 (some .int) :: tw) ({ frames := 7, cells := 1, slots := 6, locals := 102 }) (va_Pc [.ref h0] (preR tE adK adV (dC, dI) [(h0, .inr (10, [.ref r0, .ref d0, .ref g0, .ref g1, .ref y1, .ref s1, .ref l1, .ref w1])), (r0, .inr (7, [.ref a1, .ref a2, .ref a3, .ref a4, .ref a5, .ref a6, .ref a7, .int 0])), (d0, .inr (2, [.ref b1, .ref b2, .ref b3, .int 0, .int (-1), .int (-1)])), (g0, .inr (4, [.ref f0, .ref n0, .ref y0, .int 0, .int 0, .int 0, .int 45])), (f0, .inr (3, [.ref r0, .ref d0, .ref z1, .ref z2, .ref z3, .ref z4, .ref z5, .int 0, .int 0]))] [] sz)) (va_Qi (fun (r : Int32) (_ : Unit) => False) (fun (_ : Unit) (_ : State) => True) (fun q : Nat => sz ≤ q)) (vx_X (fun _ : Unit => True) (fun E (_ : Unit) (_ : State) => E = "java/lang/IllegalStateException") (fun q : Nat => sz ≤ q)) 1 6 (fun q : Nat => sz ≤ q) := by
  refine vx_ofW (cc := cX10_number) (maxL := 1) (ret := (some .int)) (by decide) rfl ?_
  intro p e s m args below meth c s₁ B hml hte hv
  obtain ⟨rfl, hsz, hP, hK, ham⟩ := hv
  have hx := B.exec
  have hb := B.bytes
  have hr := B.returns
  have hts := atoms_spec B.pre
  have hq : ∀ w ∈ tw, w.before _ s = true := fun w h => hts w (List.mem_cons_of_mem _ h)
  have hown : s.vm.findClass RX10 = some m.cls := findClass_of_methodNamed B.named
  have hlocks := B.notSynchronized
  subst hsz
  generalize hAe : (fun q : Nat => s.heap.size ≤ q) = A at ham ⊢
  have hA : ∀ q : Nat, s.heap.size ≤ q → A q := fun q h => by rw [← hAe]; exact h
  have hS : va_S A s.heap s.heap [] := va_S.rf
  have hP : va_P (dC, dI) cls [(h0, .inr (10, [.ref r0, .ref d0, .ref g0, .ref g1, .ref y1, .ref s1, .ref l1, .ref w1])), (r0, .inr (7, [.ref a1, .ref a2, .ref a3, .ref a4, .ref a5, .ref a6, .ref a7, .int 0])), (d0, .inr (2, [.ref b1, .ref b2, .ref b3, .int 0, .int (-1), .int (-1)])), (g0, .inr (4, [.ref f0, .ref n0, .ref y0, .int 0, .int 0, .int 0, .int 45])), (f0, .inr (3, [.ref r0, .ref d0, .ref z1, .ref z2, .ref z3, .ref z4, .ref z5, .int 0, .int 0]))] s.heap := hP
  have hl := lv_entry ([.ref h0]) (n := 1) (Nat.le_of_ble_eq_true rfl)
  rw [lg_entry_eq]
  generalize (lg_sl ([.ref h0]) ++ List.replicate (1 - (lg_sl ([.ref h0])).length) Slot.unset).toArray = ls at hl ⊢
  have hl : lv_has ls 1 [(0, .ref h0)] := hl
  refine lv_aload_n hx hb dX10_number_0 rfl (lv_at hl 0 rfl) ?_
  have hPc := hP.sub (ws' := [(h0, .inr (10, [.ref r0, .ref d0, .ref g0, .ref g1, .ref y1, .ref s1, .ref l1, .ref w1])), (g0, .inr (4, [.ref f0, .ref n0, .ref y0, .int 0, .int 0, .int 0, .int 45]))]) [0, 3] rfl
  have hKc := hK.sub (tys' := []) [] rfl
  refine vx_callv (vx_runV (As := []) (rest := []) ⟨hx, hb, hml, hown, hq⟩ (c_requireBegun l hst tE adK adV dC dI h0 r0 d0 g0 g1 y1 s1 l1 w1 f0 n0 y0 s.heap.size) (tcV 0 hq q_1063 q_1 q_1060 q_1062 qp_19 rfl rfl (by decide +kernel) ⟨Nat.le_of_ble_eq_true rfl, Nat.le_of_ble_eq_true rfl⟩) (preR.V (va_recv hK hP (ci := 10) (q0 := 0) rfl rfl) (preR.of hPc hKc ham hS hA)) rfl rfl hl.1 rfl (lv_room (Nat.le_of_ble_eq_true rfl)) dX10_number_1 ⟨Nat.le_of_ble_eq_true rfl, Nat.le_of_ble_eq_true rfl⟩) hS (fun q _ h => hA q (Nat.le_trans hS.1 h)) (fun q h => hA q (Nat.le_trans hS.1 h)) (fun q _ h => hA q (Nat.le_trans hS.1 h)) (fun E ce q9 u t H1 locs ht hvm hpx hB hz1 hk1 hS hce hcv hcl => ?_) (fun u t H1 locs ht hvm hw hB hz1 hk1 hS => ?_)
  · have hE : E = "java/lang/IllegalStateException" := hB
    exact vx_out (fun x9 h9 => (hte x9 h9).elim) hlocks hce hcv hcl (vx_thru hE hS) hS.2.2 (Nat.le_of_ble_eq_true rfl) (Nat.le_of_ble_eq_true rfl)
  · exact (hw : False).elim
abbrev cX10_isAlive : ByteArray := prog_1_method_19_code
def yX10_isAlive : MethodName := ⟨RX10, "isAlive", "(I)Z"⟩
theorem dX10_isAlive_0 : decode cX10_isAlive 0 = .ok (.aload_n 0, 1) := by decide +kernel
theorem dX10_isAlive_1 : decode cX10_isAlive 1 = .ok (.iload_n 1, 1) := by decide +kernel
theorem dX10_isAlive_2 : decode cX10_isAlive 2 = .ok (.invokevirtual 162, 3) := by decide +kernel
set_option maxHeartbeats 4000000 in
set_option maxRecDepth 100000 in
theorem c_X_isAlive (l : Launch) (hst : l.stackTraces = false) (tE : Nat) (adK adV : Nat → Nat) (dC : Nat → ClassId) (dI : Nat → Nat → Nat) (h0 : Nat) (r0 : Nat) (d0 : Nat) (g0 : Nat) (g1 : Nat) (y1 : Nat) (s1 : Nat) (l1 : Nat) (w1 : Nat) (a1 : Nat) (a2 : Nat) (a3 : Nat) (a4 : Nat) (a5 : Nat) (a6 : Nat) (a7 : Nat) (b1 : Nat) (b2 : Nat) (b3 : Nat) (f0 : Nat) (n0 : Nat) (y0 : Nat) (z1 : Nat) (z2 : Nat) (z3 : Nat) (z4 : Nat) (z5 : Nat) (p1 : Int32) (sz : Nat) : vx_Met l yX10_isAlive (Cond.code yX10_isAlive cX10_isAlive 2 (some .boolean) :: tw) ({ frames := 7, cells := 1, slots := 6, locals := 103 }) (va_Pc [.ref h0, .int p1] (preR tE adK adV (dC, dI) [(h0, .inr (10, [.ref r0, .ref d0, .ref g0, .ref g1, .ref y1, .ref s1, .ref l1, .ref w1])), (r0, .inr (7, [.ref a1, .ref a2, .ref a3, .ref a4, .ref a5, .ref a6, .ref a7, .int 0])), (d0, .inr (2, [.ref b1, .ref b2, .ref b3, .int 0, .int (-1), .int (-1)])), (g0, .inr (4, [.ref f0, .ref n0, .ref y0, .int 0, .int 0, .int 0, .int 45])), (f0, .inr (3, [.ref r0, .ref d0, .ref z1, .ref z2, .ref z3, .ref z4, .ref z5, .int 0, .int 0]))] [] sz)) (va_Qi (fun (r : Int32) (_ : Unit) => False) (fun (_ : Unit) (_ : State) => True) (fun q : Nat => sz ≤ q)) (vx_X (fun _ : Unit => True) (fun E (_ : Unit) (_ : State) => E = "java/lang/IndexOutOfBoundsException") (fun q : Nat => sz ≤ q)) 1 6 (fun q : Nat => sz ≤ q) := by
  refine vx_ofW (cc := cX10_isAlive) (maxL := 2) (ret := (some .boolean)) (by decide) rfl ?_
  intro p e s m args below meth c s₁ B hml hte hv
  obtain ⟨rfl, hsz, hP, hK, ham⟩ := hv
  have hx := B.exec
  have hb := B.bytes
  have hr := B.returns
  have hts := atoms_spec B.pre
  have hq : ∀ w ∈ tw, w.before _ s = true := fun w h => hts w (List.mem_cons_of_mem _ h)
  have hown : s.vm.findClass RX10 = some m.cls := findClass_of_methodNamed B.named
  have hlocks := B.notSynchronized
  subst hsz
  generalize hAe : (fun q : Nat => s.heap.size ≤ q) = A at ham ⊢
  have hA : ∀ q : Nat, s.heap.size ≤ q → A q := fun q h => by rw [← hAe]; exact h
  have hS : va_S A s.heap s.heap [] := va_S.rf
  have hP : va_P (dC, dI) cls [(h0, .inr (10, [.ref r0, .ref d0, .ref g0, .ref g1, .ref y1, .ref s1, .ref l1, .ref w1])), (r0, .inr (7, [.ref a1, .ref a2, .ref a3, .ref a4, .ref a5, .ref a6, .ref a7, .int 0])), (d0, .inr (2, [.ref b1, .ref b2, .ref b3, .int 0, .int (-1), .int (-1)])), (g0, .inr (4, [.ref f0, .ref n0, .ref y0, .int 0, .int 0, .int 0, .int 45])), (f0, .inr (3, [.ref r0, .ref d0, .ref z1, .ref z2, .ref z3, .ref z4, .ref z5, .int 0, .int 0]))] s.heap := hP
  have hl := lv_entry ([.ref h0, .int p1]) (n := 2) (Nat.le_of_ble_eq_true rfl)
  rw [lg_entry_eq]
  generalize (lg_sl ([.ref h0, .int p1]) ++ List.replicate (2 - (lg_sl ([.ref h0, .int p1])).length) Slot.unset).toArray = ls at hl ⊢
  have hl : lv_has ls 2 [(0, .ref h0), (1, .int p1)] := hl
  refine lv_aload_n hx hb dX10_isAlive_0 rfl (lv_at hl 0 rfl) ?_
  refine lv_iload_n hx hb dX10_isAlive_1 rfl (lv_at hl 1 rfl) ?_
  have hPc := hP.sub (ws' := [(h0, .inr (10, [.ref r0, .ref d0, .ref g0, .ref g1, .ref y1, .ref s1, .ref l1, .ref w1])), (d0, .inr (2, [.ref b1, .ref b2, .ref b3, .int 0, .int (-1), .int (-1)]))]) [0, 2] rfl
  have hKc := hK.sub (tys' := []) [] rfl
  refine vx_callv (vx_runV (As := [.int p1]) (rest := []) ⟨hx, hb, hml, hown, hq⟩ (c_requireSeat l hst tE adK adV dC dI h0 r0 d0 g0 g1 y1 s1 l1 w1 b1 b2 b3 p1 s.heap.size) (tcV 1 hq q_866 q_1 q_863 q_865 qp_14 rfl rfl (by decide +kernel) ⟨Nat.le_of_ble_eq_true rfl, Nat.le_of_ble_eq_true rfl⟩) (preR.V (va_recv hK hP (ci := 10) (q0 := 0) rfl rfl) (preR.of hPc hKc ham hS hA)) rfl rfl hl.1 rfl (lv_room (Nat.le_of_ble_eq_true rfl)) dX10_isAlive_2 ⟨Nat.le_of_ble_eq_true rfl, Nat.le_of_ble_eq_true rfl⟩) hS (fun q _ h => hA q (Nat.le_trans hS.1 h)) (fun q h => hA q (Nat.le_trans hS.1 h)) (fun q _ h => hA q (Nat.le_trans hS.1 h)) (fun E ce q9 u t H1 locs ht hvm hpx hB hz1 hk1 hS hce hcv hcl => ?_) (fun u t H1 locs ht hvm hw hB hz1 hk1 hS => ?_)
  · have hE : E = "java/lang/IndexOutOfBoundsException" := hB
    exact vx_out (fun x9 h9 => (hte x9 h9).elim) hlocks hce hcv hcl (vx_thru hE hS) hS.2.2 (Nat.le_of_ble_eq_true rfl) (Nat.le_of_ble_eq_true rfl)
  · exact (hw : False).elim
abbrev cX10_death : ByteArray := prog_1_method_21_code
def yX10_death : MethodName := ⟨RX10, "death", "(I)C"⟩
theorem dX10_death_0 : decode cX10_death 0 = .ok (.aload_n 0, 1) := by decide +kernel
theorem dX10_death_1 : decode cX10_death 1 = .ok (.iload_n 1, 1) := by decide +kernel
theorem dX10_death_2 : decode cX10_death 2 = .ok (.invokevirtual 162, 3) := by decide +kernel
set_option maxHeartbeats 4000000 in
set_option maxRecDepth 100000 in
theorem c_X_death (l : Launch) (hst : l.stackTraces = false) (tE : Nat) (adK adV : Nat → Nat) (dC : Nat → ClassId) (dI : Nat → Nat → Nat) (h0 : Nat) (r0 : Nat) (d0 : Nat) (g0 : Nat) (g1 : Nat) (y1 : Nat) (s1 : Nat) (l1 : Nat) (w1 : Nat) (a1 : Nat) (a2 : Nat) (a3 : Nat) (a4 : Nat) (a5 : Nat) (a6 : Nat) (a7 : Nat) (b1 : Nat) (b2 : Nat) (b3 : Nat) (f0 : Nat) (n0 : Nat) (y0 : Nat) (z1 : Nat) (z2 : Nat) (z3 : Nat) (z4 : Nat) (z5 : Nat) (p1 : Int32) (sz : Nat) : vx_Met l yX10_death (Cond.code yX10_death cX10_death 2 (some .char) :: tw) ({ frames := 7, cells := 1, slots := 6, locals := 103 }) (va_Pc [.ref h0, .int p1] (preR tE adK adV (dC, dI) [(h0, .inr (10, [.ref r0, .ref d0, .ref g0, .ref g1, .ref y1, .ref s1, .ref l1, .ref w1])), (r0, .inr (7, [.ref a1, .ref a2, .ref a3, .ref a4, .ref a5, .ref a6, .ref a7, .int 0])), (d0, .inr (2, [.ref b1, .ref b2, .ref b3, .int 0, .int (-1), .int (-1)])), (g0, .inr (4, [.ref f0, .ref n0, .ref y0, .int 0, .int 0, .int 0, .int 45])), (f0, .inr (3, [.ref r0, .ref d0, .ref z1, .ref z2, .ref z3, .ref z4, .ref z5, .int 0, .int 0]))] [] sz)) (va_Qi (fun (r : Int32) (_ : Unit) => False) (fun (_ : Unit) (_ : State) => True) (fun q : Nat => sz ≤ q)) (vx_X (fun _ : Unit => True) (fun E (_ : Unit) (_ : State) => E = "java/lang/IndexOutOfBoundsException") (fun q : Nat => sz ≤ q)) 1 6 (fun q : Nat => sz ≤ q) := by
  refine vx_ofW (cc := cX10_death) (maxL := 2) (ret := (some .char)) (by decide) rfl ?_
  intro p e s m args below meth c s₁ B hml hte hv
  obtain ⟨rfl, hsz, hP, hK, ham⟩ := hv
  have hx := B.exec
  have hb := B.bytes
  have hr := B.returns
  have hts := atoms_spec B.pre
  have hq : ∀ w ∈ tw, w.before _ s = true := fun w h => hts w (List.mem_cons_of_mem _ h)
  have hown : s.vm.findClass RX10 = some m.cls := findClass_of_methodNamed B.named
  have hlocks := B.notSynchronized
  subst hsz
  generalize hAe : (fun q : Nat => s.heap.size ≤ q) = A at ham ⊢
  have hA : ∀ q : Nat, s.heap.size ≤ q → A q := fun q h => by rw [← hAe]; exact h
  have hS : va_S A s.heap s.heap [] := va_S.rf
  have hP : va_P (dC, dI) cls [(h0, .inr (10, [.ref r0, .ref d0, .ref g0, .ref g1, .ref y1, .ref s1, .ref l1, .ref w1])), (r0, .inr (7, [.ref a1, .ref a2, .ref a3, .ref a4, .ref a5, .ref a6, .ref a7, .int 0])), (d0, .inr (2, [.ref b1, .ref b2, .ref b3, .int 0, .int (-1), .int (-1)])), (g0, .inr (4, [.ref f0, .ref n0, .ref y0, .int 0, .int 0, .int 0, .int 45])), (f0, .inr (3, [.ref r0, .ref d0, .ref z1, .ref z2, .ref z3, .ref z4, .ref z5, .int 0, .int 0]))] s.heap := hP
  have hl := lv_entry ([.ref h0, .int p1]) (n := 2) (Nat.le_of_ble_eq_true rfl)
  rw [lg_entry_eq]
  generalize (lg_sl ([.ref h0, .int p1]) ++ List.replicate (2 - (lg_sl ([.ref h0, .int p1])).length) Slot.unset).toArray = ls at hl ⊢
  have hl : lv_has ls 2 [(0, .ref h0), (1, .int p1)] := hl
  refine lv_aload_n hx hb dX10_death_0 rfl (lv_at hl 0 rfl) ?_
  refine lv_iload_n hx hb dX10_death_1 rfl (lv_at hl 1 rfl) ?_
  have hPc := hP.sub (ws' := [(h0, .inr (10, [.ref r0, .ref d0, .ref g0, .ref g1, .ref y1, .ref s1, .ref l1, .ref w1])), (d0, .inr (2, [.ref b1, .ref b2, .ref b3, .int 0, .int (-1), .int (-1)]))]) [0, 2] rfl
  have hKc := hK.sub (tys' := []) [] rfl
  refine vx_callv (vx_runV (As := [.int p1]) (rest := []) ⟨hx, hb, hml, hown, hq⟩ (c_requireSeat l hst tE adK adV dC dI h0 r0 d0 g0 g1 y1 s1 l1 w1 b1 b2 b3 p1 s.heap.size) (tcV 1 hq q_866 q_1 q_863 q_865 qp_14 rfl rfl (by decide +kernel) ⟨Nat.le_of_ble_eq_true rfl, Nat.le_of_ble_eq_true rfl⟩) (preR.V (va_recv hK hP (ci := 10) (q0 := 0) rfl rfl) (preR.of hPc hKc ham hS hA)) rfl rfl hl.1 rfl (lv_room (Nat.le_of_ble_eq_true rfl)) dX10_death_2 ⟨Nat.le_of_ble_eq_true rfl, Nat.le_of_ble_eq_true rfl⟩) hS (fun q _ h => hA q (Nat.le_trans hS.1 h)) (fun q h => hA q (Nat.le_trans hS.1 h)) (fun q _ h => hA q (Nat.le_trans hS.1 h)) (fun E ce q9 u t H1 locs ht hvm hpx hB hz1 hk1 hS hce hcv hcl => ?_) (fun u t H1 locs ht hvm hw hB hz1 hk1 hS => ?_)
  · have hE : E = "java/lang/IndexOutOfBoundsException" := hB
    exact vx_out (fun x9 h9 => (hte x9 h9).elim) hlocks hce hcv hcl (vx_thru hE hS) hS.2.2 (Nat.le_of_ble_eq_true rfl) (Nat.le_of_ble_eq_true rfl)
  · exact (hw : False).elim
abbrev cX10_roleOf : ByteArray := prog_1_method_22_code
def yX10_roleOf : MethodName := ⟨RX10, "roleOf", "(I)I"⟩
theorem dX10_roleOf_0 : decode cX10_roleOf 0 = .ok (.aload_n 0, 1) := by decide +kernel
theorem dX10_roleOf_1 : decode cX10_roleOf 1 = .ok (.iload_n 1, 1) := by decide +kernel
theorem dX10_roleOf_2 : decode cX10_roleOf 2 = .ok (.invokevirtual 162, 3) := by decide +kernel
set_option maxHeartbeats 4000000 in
set_option maxRecDepth 100000 in
theorem c_X_roleOf (l : Launch) (hst : l.stackTraces = false) (tE : Nat) (adK adV : Nat → Nat) (dC : Nat → ClassId) (dI : Nat → Nat → Nat) (h0 : Nat) (r0 : Nat) (d0 : Nat) (g0 : Nat) (g1 : Nat) (y1 : Nat) (s1 : Nat) (l1 : Nat) (w1 : Nat) (a1 : Nat) (a2 : Nat) (a3 : Nat) (a4 : Nat) (a5 : Nat) (a6 : Nat) (a7 : Nat) (b1 : Nat) (b2 : Nat) (b3 : Nat) (f0 : Nat) (n0 : Nat) (y0 : Nat) (z1 : Nat) (z2 : Nat) (z3 : Nat) (z4 : Nat) (z5 : Nat) (p1 : Int32) (sz : Nat) : vx_Met l yX10_roleOf (Cond.code yX10_roleOf cX10_roleOf 2 (some .int) :: tw) ({ frames := 7, cells := 1, slots := 6, locals := 103 }) (va_Pc [.ref h0, .int p1] (preR tE adK adV (dC, dI) [(h0, .inr (10, [.ref r0, .ref d0, .ref g0, .ref g1, .ref y1, .ref s1, .ref l1, .ref w1])), (r0, .inr (7, [.ref a1, .ref a2, .ref a3, .ref a4, .ref a5, .ref a6, .ref a7, .int 0])), (d0, .inr (2, [.ref b1, .ref b2, .ref b3, .int 0, .int (-1), .int (-1)])), (g0, .inr (4, [.ref f0, .ref n0, .ref y0, .int 0, .int 0, .int 0, .int 45])), (f0, .inr (3, [.ref r0, .ref d0, .ref z1, .ref z2, .ref z3, .ref z4, .ref z5, .int 0, .int 0]))] [] sz)) (va_Qi (fun (r : Int32) (_ : Unit) => False) (fun (_ : Unit) (_ : State) => True) (fun q : Nat => sz ≤ q)) (vx_X (fun _ : Unit => True) (fun E (_ : Unit) (_ : State) => E = "java/lang/IndexOutOfBoundsException") (fun q : Nat => sz ≤ q)) 1 6 (fun q : Nat => sz ≤ q) := by
  refine vx_ofW (cc := cX10_roleOf) (maxL := 2) (ret := (some .int)) (by decide) rfl ?_
  intro p e s m args below meth c s₁ B hml hte hv
  obtain ⟨rfl, hsz, hP, hK, ham⟩ := hv
  have hx := B.exec
  have hb := B.bytes
  have hr := B.returns
  have hts := atoms_spec B.pre
  have hq : ∀ w ∈ tw, w.before _ s = true := fun w h => hts w (List.mem_cons_of_mem _ h)
  have hown : s.vm.findClass RX10 = some m.cls := findClass_of_methodNamed B.named
  have hlocks := B.notSynchronized
  subst hsz
  generalize hAe : (fun q : Nat => s.heap.size ≤ q) = A at ham ⊢
  have hA : ∀ q : Nat, s.heap.size ≤ q → A q := fun q h => by rw [← hAe]; exact h
  have hS : va_S A s.heap s.heap [] := va_S.rf
  have hP : va_P (dC, dI) cls [(h0, .inr (10, [.ref r0, .ref d0, .ref g0, .ref g1, .ref y1, .ref s1, .ref l1, .ref w1])), (r0, .inr (7, [.ref a1, .ref a2, .ref a3, .ref a4, .ref a5, .ref a6, .ref a7, .int 0])), (d0, .inr (2, [.ref b1, .ref b2, .ref b3, .int 0, .int (-1), .int (-1)])), (g0, .inr (4, [.ref f0, .ref n0, .ref y0, .int 0, .int 0, .int 0, .int 45])), (f0, .inr (3, [.ref r0, .ref d0, .ref z1, .ref z2, .ref z3, .ref z4, .ref z5, .int 0, .int 0]))] s.heap := hP
  have hl := lv_entry ([.ref h0, .int p1]) (n := 2) (Nat.le_of_ble_eq_true rfl)
  rw [lg_entry_eq]
  generalize (lg_sl ([.ref h0, .int p1]) ++ List.replicate (2 - (lg_sl ([.ref h0, .int p1])).length) Slot.unset).toArray = ls at hl ⊢
  have hl : lv_has ls 2 [(0, .ref h0), (1, .int p1)] := hl
  refine lv_aload_n hx hb dX10_roleOf_0 rfl (lv_at hl 0 rfl) ?_
  refine lv_iload_n hx hb dX10_roleOf_1 rfl (lv_at hl 1 rfl) ?_
  have hPc := hP.sub (ws' := [(h0, .inr (10, [.ref r0, .ref d0, .ref g0, .ref g1, .ref y1, .ref s1, .ref l1, .ref w1])), (d0, .inr (2, [.ref b1, .ref b2, .ref b3, .int 0, .int (-1), .int (-1)]))]) [0, 2] rfl
  have hKc := hK.sub (tys' := []) [] rfl
  refine vx_callv (vx_runV (As := [.int p1]) (rest := []) ⟨hx, hb, hml, hown, hq⟩ (c_requireSeat l hst tE adK adV dC dI h0 r0 d0 g0 g1 y1 s1 l1 w1 b1 b2 b3 p1 s.heap.size) (tcV 1 hq q_866 q_1 q_863 q_865 qp_14 rfl rfl (by decide +kernel) ⟨Nat.le_of_ble_eq_true rfl, Nat.le_of_ble_eq_true rfl⟩) (preR.V (va_recv hK hP (ci := 10) (q0 := 0) rfl rfl) (preR.of hPc hKc ham hS hA)) rfl rfl hl.1 rfl (lv_room (Nat.le_of_ble_eq_true rfl)) dX10_roleOf_2 ⟨Nat.le_of_ble_eq_true rfl, Nat.le_of_ble_eq_true rfl⟩) hS (fun q _ h => hA q (Nat.le_trans hS.1 h)) (fun q h => hA q (Nat.le_trans hS.1 h)) (fun q _ h => hA q (Nat.le_trans hS.1 h)) (fun E ce q9 u t H1 locs ht hvm hpx hB hz1 hk1 hS hce hcv hcl => ?_) (fun u t H1 locs ht hvm hw hB hz1 hk1 hS => ?_)
  · have hE : E = "java/lang/IndexOutOfBoundsException" := hB
    exact vx_out (fun x9 h9 => (hte x9 h9).elim) hlocks hce hcv hcl (vx_thru hE hS) hS.2.2 (Nat.le_of_ble_eq_true rfl) (Nat.le_of_ble_eq_true rfl)
  · exact (hw : False).elim
abbrev cX10_dealt : ByteArray := prog_1_method_23_code
def yX10_dealt : MethodName := ⟨RX10, "dealt", "(I)I"⟩
theorem dX10_dealt_0 : decode cX10_dealt 0 = .ok (.aload_n 0, 1) := by decide +kernel
theorem dX10_dealt_1 : decode cX10_dealt 1 = .ok (.iload_n 1, 1) := by decide +kernel
theorem dX10_dealt_2 : decode cX10_dealt 2 = .ok (.invokevirtual 99, 3) := by decide +kernel
set_option maxHeartbeats 4000000 in
set_option maxRecDepth 100000 in
theorem c_X_dealt (l : Launch) (hst : l.stackTraces = false) (tE : Nat) (adK adV : Nat → Nat) (dC : Nat → ClassId) (dI : Nat → Nat → Nat) (h0 : Nat) (r0 : Nat) (d0 : Nat) (g0 : Nat) (g1 : Nat) (y1 : Nat) (s1 : Nat) (l1 : Nat) (w1 : Nat) (a1 : Nat) (a2 : Nat) (a3 : Nat) (a4 : Nat) (a5 : Nat) (a6 : Nat) (a7 : Nat) (b1 : Nat) (b2 : Nat) (b3 : Nat) (f0 : Nat) (n0 : Nat) (y0 : Nat) (z1 : Nat) (z2 : Nat) (z3 : Nat) (z4 : Nat) (z5 : Nat) (p1 : Int32) (sz : Nat) : vx_Met l yX10_dealt (Cond.code yX10_dealt cX10_dealt 2 (some .int) :: tw) ({ frames := 7, cells := 1, slots := 6, locals := 103 }) (va_Pc [.ref h0, .int p1] (preR tE adK adV (dC, dI) [(h0, .inr (10, [.ref r0, .ref d0, .ref g0, .ref g1, .ref y1, .ref s1, .ref l1, .ref w1])), (r0, .inr (7, [.ref a1, .ref a2, .ref a3, .ref a4, .ref a5, .ref a6, .ref a7, .int 0])), (d0, .inr (2, [.ref b1, .ref b2, .ref b3, .int 0, .int (-1), .int (-1)])), (g0, .inr (4, [.ref f0, .ref n0, .ref y0, .int 0, .int 0, .int 0, .int 45])), (f0, .inr (3, [.ref r0, .ref d0, .ref z1, .ref z2, .ref z3, .ref z4, .ref z5, .int 0, .int 0]))] [] sz)) (va_Qi (fun (r : Int32) (_ : Unit) => False) (fun (_ : Unit) (_ : State) => True) (fun q : Nat => sz ≤ q)) (vx_X (fun _ : Unit => True) (fun E (_ : Unit) (_ : State) => E = "java/lang/IndexOutOfBoundsException") (fun q : Nat => sz ≤ q)) 1 6 (fun q : Nat => sz ≤ q) := by
  refine vx_ofW (cc := cX10_dealt) (maxL := 2) (ret := (some .int)) (by decide) rfl ?_
  intro p e s m args below meth c s₁ B hml hte hv
  obtain ⟨rfl, hsz, hP, hK, ham⟩ := hv
  have hx := B.exec
  have hb := B.bytes
  have hr := B.returns
  have hts := atoms_spec B.pre
  have hq : ∀ w ∈ tw, w.before _ s = true := fun w h => hts w (List.mem_cons_of_mem _ h)
  have hown : s.vm.findClass RX10 = some m.cls := findClass_of_methodNamed B.named
  have hlocks := B.notSynchronized
  subst hsz
  generalize hAe : (fun q : Nat => s.heap.size ≤ q) = A at ham ⊢
  have hA : ∀ q : Nat, s.heap.size ≤ q → A q := fun q h => by rw [← hAe]; exact h
  have hS : va_S A s.heap s.heap [] := va_S.rf
  have hP : va_P (dC, dI) cls [(h0, .inr (10, [.ref r0, .ref d0, .ref g0, .ref g1, .ref y1, .ref s1, .ref l1, .ref w1])), (r0, .inr (7, [.ref a1, .ref a2, .ref a3, .ref a4, .ref a5, .ref a6, .ref a7, .int 0])), (d0, .inr (2, [.ref b1, .ref b2, .ref b3, .int 0, .int (-1), .int (-1)])), (g0, .inr (4, [.ref f0, .ref n0, .ref y0, .int 0, .int 0, .int 0, .int 45])), (f0, .inr (3, [.ref r0, .ref d0, .ref z1, .ref z2, .ref z3, .ref z4, .ref z5, .int 0, .int 0]))] s.heap := hP
  have hl := lv_entry ([.ref h0, .int p1]) (n := 2) (Nat.le_of_ble_eq_true rfl)
  rw [lg_entry_eq]
  generalize (lg_sl ([.ref h0, .int p1]) ++ List.replicate (2 - (lg_sl ([.ref h0, .int p1])).length) Slot.unset).toArray = ls at hl ⊢
  have hl : lv_has ls 2 [(0, .ref h0), (1, .int p1)] := hl
  refine lv_aload_n hx hb dX10_dealt_0 rfl (lv_at hl 0 rfl) ?_
  refine lv_iload_n hx hb dX10_dealt_1 rfl (lv_at hl 1 rfl) ?_
  have hPc := hP.sub (ws' := [(h0, .inr (10, [.ref r0, .ref d0, .ref g0, .ref g1, .ref y1, .ref s1, .ref l1, .ref w1])), (r0, .inr (7, [.ref a1, .ref a2, .ref a3, .ref a4, .ref a5, .ref a6, .ref a7, .int 0]))]) [0, 1] rfl
  have hKc := hK.sub (tys' := []) [] rfl
  refine vx_callv (vx_runV (As := [.int p1]) (rest := []) ⟨hx, hb, hml, hown, hq⟩ (c_requireRole l hst tE adK adV dC dI h0 r0 d0 g0 g1 y1 s1 l1 w1 a1 a2 a3 a4 a5 a6 a7 p1 s.heap.size) (tcV 1 hq q_817 q_1 q_814 q_816 qp_12 rfl rfl (by decide +kernel) ⟨Nat.le_of_ble_eq_true rfl, Nat.le_of_ble_eq_true rfl⟩) (preR.V (va_recv hK hP (ci := 10) (q0 := 0) rfl rfl) (preR.of hPc hKc ham hS hA)) rfl rfl hl.1 rfl (lv_room (Nat.le_of_ble_eq_true rfl)) dX10_dealt_2 ⟨Nat.le_of_ble_eq_true rfl, Nat.le_of_ble_eq_true rfl⟩) hS (fun q _ h => hA q (Nat.le_trans hS.1 h)) (fun q h => hA q (Nat.le_trans hS.1 h)) (fun q _ h => hA q (Nat.le_trans hS.1 h)) (fun E ce q9 u t H1 locs ht hvm hpx hB hz1 hk1 hS hce hcv hcl => ?_) (fun u t H1 locs ht hvm hw hB hz1 hk1 hS => ?_)
  · have hE : E = "java/lang/IndexOutOfBoundsException" := hB
    exact vx_out (fun x9 h9 => (hte x9 h9).elim) hlocks hce hcv hcl (vx_thru hE hS) hS.2.2 (Nat.le_of_ble_eq_true rfl) (Nat.le_of_ble_eq_true rfl)
  · exact (hw : False).elim
abbrev cX10_isSilenced : ByteArray := prog_1_method_24_code
def yX10_isSilenced : MethodName := ⟨RX10, "isSilenced", "(I)Z"⟩
theorem dX10_isSilenced_0 : decode cX10_isSilenced 0 = .ok (.aload_n 0, 1) := by decide +kernel
theorem dX10_isSilenced_1 : decode cX10_isSilenced 1 = .ok (.iload_n 1, 1) := by decide +kernel
theorem dX10_isSilenced_2 : decode cX10_isSilenced 2 = .ok (.invokevirtual 162, 3) := by decide +kernel
set_option maxHeartbeats 4000000 in
set_option maxRecDepth 100000 in
theorem c_X_isSilenced (l : Launch) (hst : l.stackTraces = false) (tE : Nat) (adK adV : Nat → Nat) (dC : Nat → ClassId) (dI : Nat → Nat → Nat) (h0 : Nat) (r0 : Nat) (d0 : Nat) (g0 : Nat) (g1 : Nat) (y1 : Nat) (s1 : Nat) (l1 : Nat) (w1 : Nat) (a1 : Nat) (a2 : Nat) (a3 : Nat) (a4 : Nat) (a5 : Nat) (a6 : Nat) (a7 : Nat) (b1 : Nat) (b2 : Nat) (b3 : Nat) (f0 : Nat) (n0 : Nat) (y0 : Nat) (z1 : Nat) (z2 : Nat) (z3 : Nat) (z4 : Nat) (z5 : Nat) (p1 : Int32) (sz : Nat) : vx_Met l yX10_isSilenced (Cond.code yX10_isSilenced cX10_isSilenced 2 (some .boolean) :: tw) ({ frames := 7, cells := 1, slots := 6, locals := 103 }) (va_Pc [.ref h0, .int p1] (preR tE adK adV (dC, dI) [(h0, .inr (10, [.ref r0, .ref d0, .ref g0, .ref g1, .ref y1, .ref s1, .ref l1, .ref w1])), (r0, .inr (7, [.ref a1, .ref a2, .ref a3, .ref a4, .ref a5, .ref a6, .ref a7, .int 0])), (d0, .inr (2, [.ref b1, .ref b2, .ref b3, .int 0, .int (-1), .int (-1)])), (g0, .inr (4, [.ref f0, .ref n0, .ref y0, .int 0, .int 0, .int 0, .int 45])), (f0, .inr (3, [.ref r0, .ref d0, .ref z1, .ref z2, .ref z3, .ref z4, .ref z5, .int 0, .int 0]))] [] sz)) (va_Qi (fun (r : Int32) (_ : Unit) => False) (fun (_ : Unit) (_ : State) => True) (fun q : Nat => sz ≤ q)) (vx_X (fun _ : Unit => True) (fun E (_ : Unit) (_ : State) => E = "java/lang/IndexOutOfBoundsException") (fun q : Nat => sz ≤ q)) 1 6 (fun q : Nat => sz ≤ q) := by
  refine vx_ofW (cc := cX10_isSilenced) (maxL := 2) (ret := (some .boolean)) (by decide) rfl ?_
  intro p e s m args below meth c s₁ B hml hte hv
  obtain ⟨rfl, hsz, hP, hK, ham⟩ := hv
  have hx := B.exec
  have hb := B.bytes
  have hr := B.returns
  have hts := atoms_spec B.pre
  have hq : ∀ w ∈ tw, w.before _ s = true := fun w h => hts w (List.mem_cons_of_mem _ h)
  have hown : s.vm.findClass RX10 = some m.cls := findClass_of_methodNamed B.named
  have hlocks := B.notSynchronized
  subst hsz
  generalize hAe : (fun q : Nat => s.heap.size ≤ q) = A at ham ⊢
  have hA : ∀ q : Nat, s.heap.size ≤ q → A q := fun q h => by rw [← hAe]; exact h
  have hS : va_S A s.heap s.heap [] := va_S.rf
  have hP : va_P (dC, dI) cls [(h0, .inr (10, [.ref r0, .ref d0, .ref g0, .ref g1, .ref y1, .ref s1, .ref l1, .ref w1])), (r0, .inr (7, [.ref a1, .ref a2, .ref a3, .ref a4, .ref a5, .ref a6, .ref a7, .int 0])), (d0, .inr (2, [.ref b1, .ref b2, .ref b3, .int 0, .int (-1), .int (-1)])), (g0, .inr (4, [.ref f0, .ref n0, .ref y0, .int 0, .int 0, .int 0, .int 45])), (f0, .inr (3, [.ref r0, .ref d0, .ref z1, .ref z2, .ref z3, .ref z4, .ref z5, .int 0, .int 0]))] s.heap := hP
  have hl := lv_entry ([.ref h0, .int p1]) (n := 2) (Nat.le_of_ble_eq_true rfl)
  rw [lg_entry_eq]
  generalize (lg_sl ([.ref h0, .int p1]) ++ List.replicate (2 - (lg_sl ([.ref h0, .int p1])).length) Slot.unset).toArray = ls at hl ⊢
  have hl : lv_has ls 2 [(0, .ref h0), (1, .int p1)] := hl
  refine lv_aload_n hx hb dX10_isSilenced_0 rfl (lv_at hl 0 rfl) ?_
  refine lv_iload_n hx hb dX10_isSilenced_1 rfl (lv_at hl 1 rfl) ?_
  have hPc := hP.sub (ws' := [(h0, .inr (10, [.ref r0, .ref d0, .ref g0, .ref g1, .ref y1, .ref s1, .ref l1, .ref w1])), (d0, .inr (2, [.ref b1, .ref b2, .ref b3, .int 0, .int (-1), .int (-1)]))]) [0, 2] rfl
  have hKc := hK.sub (tys' := []) [] rfl
  refine vx_callv (vx_runV (As := [.int p1]) (rest := []) ⟨hx, hb, hml, hown, hq⟩ (c_requireSeat l hst tE adK adV dC dI h0 r0 d0 g0 g1 y1 s1 l1 w1 b1 b2 b3 p1 s.heap.size) (tcV 1 hq q_866 q_1 q_863 q_865 qp_14 rfl rfl (by decide +kernel) ⟨Nat.le_of_ble_eq_true rfl, Nat.le_of_ble_eq_true rfl⟩) (preR.V (va_recv hK hP (ci := 10) (q0 := 0) rfl rfl) (preR.of hPc hKc ham hS hA)) rfl rfl hl.1 rfl (lv_room (Nat.le_of_ble_eq_true rfl)) dX10_isSilenced_2 ⟨Nat.le_of_ble_eq_true rfl, Nat.le_of_ble_eq_true rfl⟩) hS (fun q _ h => hA q (Nat.le_trans hS.1 h)) (fun q h => hA q (Nat.le_trans hS.1 h)) (fun q _ h => hA q (Nat.le_trans hS.1 h)) (fun E ce q9 u t H1 locs ht hvm hpx hB hz1 hk1 hS hce hcv hcl => ?_) (fun u t H1 locs ht hvm hw hB hz1 hk1 hS => ?_)
  · have hE : E = "java/lang/IndexOutOfBoundsException" := hB
    exact vx_out (fun x9 h9 => (hte x9 h9).elim) hlocks hce hcv hcl (vx_thru hE hS) hS.2.2 (Nat.le_of_ble_eq_true rfl) (Nat.le_of_ble_eq_true rfl)
  · exact (hw : False).elim
abbrev cX10_hasGhostVote : ByteArray := prog_1_method_25_code
def yX10_hasGhostVote : MethodName := ⟨RX10, "hasGhostVote", "(I)Z"⟩
theorem dX10_hasGhostVote_0 : decode cX10_hasGhostVote 0 = .ok (.aload_n 0, 1) := by decide +kernel
theorem dX10_hasGhostVote_1 : decode cX10_hasGhostVote 1 = .ok (.iload_n 1, 1) := by decide +kernel
theorem dX10_hasGhostVote_2 : decode cX10_hasGhostVote 2 = .ok (.invokevirtual 162, 3) := by decide +kernel
set_option maxHeartbeats 4000000 in
set_option maxRecDepth 100000 in
theorem c_X_hasGhostVote (l : Launch) (hst : l.stackTraces = false) (tE : Nat) (adK adV : Nat → Nat) (dC : Nat → ClassId) (dI : Nat → Nat → Nat) (h0 : Nat) (r0 : Nat) (d0 : Nat) (g0 : Nat) (g1 : Nat) (y1 : Nat) (s1 : Nat) (l1 : Nat) (w1 : Nat) (a1 : Nat) (a2 : Nat) (a3 : Nat) (a4 : Nat) (a5 : Nat) (a6 : Nat) (a7 : Nat) (b1 : Nat) (b2 : Nat) (b3 : Nat) (f0 : Nat) (n0 : Nat) (y0 : Nat) (z1 : Nat) (z2 : Nat) (z3 : Nat) (z4 : Nat) (z5 : Nat) (p1 : Int32) (sz : Nat) : vx_Met l yX10_hasGhostVote (Cond.code yX10_hasGhostVote cX10_hasGhostVote 2 (some .boolean) :: tw) ({ frames := 7, cells := 1, slots := 6, locals := 103 }) (va_Pc [.ref h0, .int p1] (preR tE adK adV (dC, dI) [(h0, .inr (10, [.ref r0, .ref d0, .ref g0, .ref g1, .ref y1, .ref s1, .ref l1, .ref w1])), (r0, .inr (7, [.ref a1, .ref a2, .ref a3, .ref a4, .ref a5, .ref a6, .ref a7, .int 0])), (d0, .inr (2, [.ref b1, .ref b2, .ref b3, .int 0, .int (-1), .int (-1)])), (g0, .inr (4, [.ref f0, .ref n0, .ref y0, .int 0, .int 0, .int 0, .int 45])), (f0, .inr (3, [.ref r0, .ref d0, .ref z1, .ref z2, .ref z3, .ref z4, .ref z5, .int 0, .int 0]))] [] sz)) (va_Qi (fun (r : Int32) (_ : Unit) => False) (fun (_ : Unit) (_ : State) => True) (fun q : Nat => sz ≤ q)) (vx_X (fun _ : Unit => True) (fun E (_ : Unit) (_ : State) => E = "java/lang/IndexOutOfBoundsException") (fun q : Nat => sz ≤ q)) 1 6 (fun q : Nat => sz ≤ q) := by
  refine vx_ofW (cc := cX10_hasGhostVote) (maxL := 2) (ret := (some .boolean)) (by decide) rfl ?_
  intro p e s m args below meth c s₁ B hml hte hv
  obtain ⟨rfl, hsz, hP, hK, ham⟩ := hv
  have hx := B.exec
  have hb := B.bytes
  have hr := B.returns
  have hts := atoms_spec B.pre
  have hq : ∀ w ∈ tw, w.before _ s = true := fun w h => hts w (List.mem_cons_of_mem _ h)
  have hown : s.vm.findClass RX10 = some m.cls := findClass_of_methodNamed B.named
  have hlocks := B.notSynchronized
  subst hsz
  generalize hAe : (fun q : Nat => s.heap.size ≤ q) = A at ham ⊢
  have hA : ∀ q : Nat, s.heap.size ≤ q → A q := fun q h => by rw [← hAe]; exact h
  have hS : va_S A s.heap s.heap [] := va_S.rf
  have hP : va_P (dC, dI) cls [(h0, .inr (10, [.ref r0, .ref d0, .ref g0, .ref g1, .ref y1, .ref s1, .ref l1, .ref w1])), (r0, .inr (7, [.ref a1, .ref a2, .ref a3, .ref a4, .ref a5, .ref a6, .ref a7, .int 0])), (d0, .inr (2, [.ref b1, .ref b2, .ref b3, .int 0, .int (-1), .int (-1)])), (g0, .inr (4, [.ref f0, .ref n0, .ref y0, .int 0, .int 0, .int 0, .int 45])), (f0, .inr (3, [.ref r0, .ref d0, .ref z1, .ref z2, .ref z3, .ref z4, .ref z5, .int 0, .int 0]))] s.heap := hP
  have hl := lv_entry ([.ref h0, .int p1]) (n := 2) (Nat.le_of_ble_eq_true rfl)
  rw [lg_entry_eq]
  generalize (lg_sl ([.ref h0, .int p1]) ++ List.replicate (2 - (lg_sl ([.ref h0, .int p1])).length) Slot.unset).toArray = ls at hl ⊢
  have hl : lv_has ls 2 [(0, .ref h0), (1, .int p1)] := hl
  refine lv_aload_n hx hb dX10_hasGhostVote_0 rfl (lv_at hl 0 rfl) ?_
  refine lv_iload_n hx hb dX10_hasGhostVote_1 rfl (lv_at hl 1 rfl) ?_
  have hPc := hP.sub (ws' := [(h0, .inr (10, [.ref r0, .ref d0, .ref g0, .ref g1, .ref y1, .ref s1, .ref l1, .ref w1])), (d0, .inr (2, [.ref b1, .ref b2, .ref b3, .int 0, .int (-1), .int (-1)]))]) [0, 2] rfl
  have hKc := hK.sub (tys' := []) [] rfl
  refine vx_callv (vx_runV (As := [.int p1]) (rest := []) ⟨hx, hb, hml, hown, hq⟩ (c_requireSeat l hst tE adK adV dC dI h0 r0 d0 g0 g1 y1 s1 l1 w1 b1 b2 b3 p1 s.heap.size) (tcV 1 hq q_866 q_1 q_863 q_865 qp_14 rfl rfl (by decide +kernel) ⟨Nat.le_of_ble_eq_true rfl, Nat.le_of_ble_eq_true rfl⟩) (preR.V (va_recv hK hP (ci := 10) (q0 := 0) rfl rfl) (preR.of hPc hKc ham hS hA)) rfl rfl hl.1 rfl (lv_room (Nat.le_of_ble_eq_true rfl)) dX10_hasGhostVote_2 ⟨Nat.le_of_ble_eq_true rfl, Nat.le_of_ble_eq_true rfl⟩) hS (fun q _ h => hA q (Nat.le_trans hS.1 h)) (fun q h => hA q (Nat.le_trans hS.1 h)) (fun q _ h => hA q (Nat.le_trans hS.1 h)) (fun E ce q9 u t H1 locs ht hvm hpx hB hz1 hk1 hS hce hcv hcl => ?_) (fun u t H1 locs ht hvm hw hB hz1 hk1 hS => ?_)
  · have hE : E = "java/lang/IndexOutOfBoundsException" := hB
    exact vx_out (fun x9 h9 => (hte x9 h9).elim) hlocks hce hcv hcl (vx_thru hE hS) hS.2.2 (Nat.le_of_ble_eq_true rfl) (Nat.le_of_ble_eq_true rfl)
  · exact (hw : False).elim
abbrev cX10_score : ByteArray := prog_1_method_27_code
def yX10_score : MethodName := ⟨RX10, "score", "(I)I"⟩
theorem dX10_score_0 : decode cX10_score 0 = .ok (.aload_n 0, 1) := by decide +kernel
theorem dX10_score_1 : decode cX10_score 1 = .ok (.iload_n 1, 1) := by decide +kernel
theorem dX10_score_2 : decode cX10_score 2 = .ok (.invokevirtual 162, 3) := by decide +kernel
set_option maxHeartbeats 4000000 in
set_option maxRecDepth 100000 in
theorem c_X_score (l : Launch) (hst : l.stackTraces = false) (tE : Nat) (adK adV : Nat → Nat) (dC : Nat → ClassId) (dI : Nat → Nat → Nat) (h0 : Nat) (r0 : Nat) (d0 : Nat) (g0 : Nat) (g1 : Nat) (y1 : Nat) (s1 : Nat) (l1 : Nat) (w1 : Nat) (a1 : Nat) (a2 : Nat) (a3 : Nat) (a4 : Nat) (a5 : Nat) (a6 : Nat) (a7 : Nat) (b1 : Nat) (b2 : Nat) (b3 : Nat) (f0 : Nat) (n0 : Nat) (y0 : Nat) (z1 : Nat) (z2 : Nat) (z3 : Nat) (z4 : Nat) (z5 : Nat) (p1 : Int32) (sz : Nat) : vx_Met l yX10_score (Cond.code yX10_score cX10_score 4 (some .int) :: tw) ({ frames := 7, cells := 1, slots := 6, locals := 103 }) (va_Pc [.ref h0, .int p1] (preR tE adK adV (dC, dI) [(h0, .inr (10, [.ref r0, .ref d0, .ref g0, .ref g1, .ref y1, .ref s1, .ref l1, .ref w1])), (r0, .inr (7, [.ref a1, .ref a2, .ref a3, .ref a4, .ref a5, .ref a6, .ref a7, .int 0])), (d0, .inr (2, [.ref b1, .ref b2, .ref b3, .int 0, .int (-1), .int (-1)])), (g0, .inr (4, [.ref f0, .ref n0, .ref y0, .int 0, .int 0, .int 0, .int 45])), (f0, .inr (3, [.ref r0, .ref d0, .ref z1, .ref z2, .ref z3, .ref z4, .ref z5, .int 0, .int 0]))] [] sz)) (va_Qi (fun (r : Int32) (_ : Unit) => False) (fun (_ : Unit) (_ : State) => True) (fun q : Nat => sz ≤ q)) (vx_X (fun _ : Unit => True) (fun E (_ : Unit) (_ : State) => E = "java/lang/IndexOutOfBoundsException") (fun q : Nat => sz ≤ q)) 1 6 (fun q : Nat => sz ≤ q) := by
  refine vx_ofW (cc := cX10_score) (maxL := 4) (ret := (some .int)) (by decide) rfl ?_
  intro p e s m args below meth c s₁ B hml hte hv
  obtain ⟨rfl, hsz, hP, hK, ham⟩ := hv
  have hx := B.exec
  have hb := B.bytes
  have hr := B.returns
  have hts := atoms_spec B.pre
  have hq : ∀ w ∈ tw, w.before _ s = true := fun w h => hts w (List.mem_cons_of_mem _ h)
  have hown : s.vm.findClass RX10 = some m.cls := findClass_of_methodNamed B.named
  have hlocks := B.notSynchronized
  subst hsz
  generalize hAe : (fun q : Nat => s.heap.size ≤ q) = A at ham ⊢
  have hA : ∀ q : Nat, s.heap.size ≤ q → A q := fun q h => by rw [← hAe]; exact h
  have hS : va_S A s.heap s.heap [] := va_S.rf
  have hP : va_P (dC, dI) cls [(h0, .inr (10, [.ref r0, .ref d0, .ref g0, .ref g1, .ref y1, .ref s1, .ref l1, .ref w1])), (r0, .inr (7, [.ref a1, .ref a2, .ref a3, .ref a4, .ref a5, .ref a6, .ref a7, .int 0])), (d0, .inr (2, [.ref b1, .ref b2, .ref b3, .int 0, .int (-1), .int (-1)])), (g0, .inr (4, [.ref f0, .ref n0, .ref y0, .int 0, .int 0, .int 0, .int 45])), (f0, .inr (3, [.ref r0, .ref d0, .ref z1, .ref z2, .ref z3, .ref z4, .ref z5, .int 0, .int 0]))] s.heap := hP
  have hl := lv_entry ([.ref h0, .int p1]) (n := 4) (Nat.le_of_ble_eq_true rfl)
  rw [lg_entry_eq]
  generalize (lg_sl ([.ref h0, .int p1]) ++ List.replicate (4 - (lg_sl ([.ref h0, .int p1])).length) Slot.unset).toArray = ls at hl ⊢
  have hl : lv_has ls 4 [(0, .ref h0), (1, .int p1)] := hl
  refine lv_aload_n hx hb dX10_score_0 rfl (lv_at hl 0 rfl) ?_
  refine lv_iload_n hx hb dX10_score_1 rfl (lv_at hl 1 rfl) ?_
  have hPc := hP.sub (ws' := [(h0, .inr (10, [.ref r0, .ref d0, .ref g0, .ref g1, .ref y1, .ref s1, .ref l1, .ref w1])), (d0, .inr (2, [.ref b1, .ref b2, .ref b3, .int 0, .int (-1), .int (-1)]))]) [0, 2] rfl
  have hKc := hK.sub (tys' := []) [] rfl
  refine vx_callv (vx_runV (As := [.int p1]) (rest := []) ⟨hx, hb, hml, hown, hq⟩ (c_requireSeat l hst tE adK adV dC dI h0 r0 d0 g0 g1 y1 s1 l1 w1 b1 b2 b3 p1 s.heap.size) (tcV 1 hq q_866 q_1 q_863 q_865 qp_14 rfl rfl (by decide +kernel) ⟨Nat.le_of_ble_eq_true rfl, Nat.le_of_ble_eq_true rfl⟩) (preR.V (va_recv hK hP (ci := 10) (q0 := 0) rfl rfl) (preR.of hPc hKc ham hS hA)) rfl rfl hl.1 rfl (lv_room (Nat.le_of_ble_eq_true rfl)) dX10_score_2 ⟨Nat.le_of_ble_eq_true rfl, Nat.le_of_ble_eq_true rfl⟩) hS (fun q _ h => hA q (Nat.le_trans hS.1 h)) (fun q h => hA q (Nat.le_trans hS.1 h)) (fun q _ h => hA q (Nat.le_trans hS.1 h)) (fun E ce q9 u t H1 locs ht hvm hpx hB hz1 hk1 hS hce hcv hcl => ?_) (fun u t H1 locs ht hvm hw hB hz1 hk1 hS => ?_)
  · have hE : E = "java/lang/IndexOutOfBoundsException" := hB
    exact vx_out (fun x9 h9 => (hte x9 h9).elim) hlocks hce hcv hcl (vx_thru hE hS) hS.2.2 (Nat.le_of_ble_eq_true rfl) (Nat.le_of_ble_eq_true rfl)
  · exact (hw : False).elim
abbrev cX10_worlds : ByteArray := prog_1_method_28_code
def yX10_worlds : MethodName := ⟨RX10, "worlds", "(I)I"⟩
theorem dX10_worlds_0 : decode cX10_worlds 0 = .ok (.aload_n 0, 1) := by decide +kernel
theorem dX10_worlds_1 : decode cX10_worlds 1 = .ok (.iload_n 1, 1) := by decide +kernel
theorem dX10_worlds_2 : decode cX10_worlds 2 = .ok (.invokevirtual 162, 3) := by decide +kernel
set_option maxHeartbeats 4000000 in
set_option maxRecDepth 100000 in
theorem c_X_worlds (l : Launch) (hst : l.stackTraces = false) (tE : Nat) (adK adV : Nat → Nat) (dC : Nat → ClassId) (dI : Nat → Nat → Nat) (h0 : Nat) (r0 : Nat) (d0 : Nat) (g0 : Nat) (g1 : Nat) (y1 : Nat) (s1 : Nat) (l1 : Nat) (w1 : Nat) (a1 : Nat) (a2 : Nat) (a3 : Nat) (a4 : Nat) (a5 : Nat) (a6 : Nat) (a7 : Nat) (b1 : Nat) (b2 : Nat) (b3 : Nat) (f0 : Nat) (n0 : Nat) (y0 : Nat) (z1 : Nat) (z2 : Nat) (z3 : Nat) (z4 : Nat) (z5 : Nat) (p1 : Int32) (sz : Nat) : vx_Met l yX10_worlds (Cond.code yX10_worlds cX10_worlds 2 (some .int) :: tw) ({ frames := 7, cells := 1, slots := 6, locals := 103 }) (va_Pc [.ref h0, .int p1] (preR tE adK adV (dC, dI) [(h0, .inr (10, [.ref r0, .ref d0, .ref g0, .ref g1, .ref y1, .ref s1, .ref l1, .ref w1])), (r0, .inr (7, [.ref a1, .ref a2, .ref a3, .ref a4, .ref a5, .ref a6, .ref a7, .int 0])), (d0, .inr (2, [.ref b1, .ref b2, .ref b3, .int 0, .int (-1), .int (-1)])), (g0, .inr (4, [.ref f0, .ref n0, .ref y0, .int 0, .int 0, .int 0, .int 45])), (f0, .inr (3, [.ref r0, .ref d0, .ref z1, .ref z2, .ref z3, .ref z4, .ref z5, .int 0, .int 0]))] [] sz)) (va_Qi (fun (r : Int32) (_ : Unit) => False) (fun (_ : Unit) (_ : State) => True) (fun q : Nat => sz ≤ q)) (vx_X (fun _ : Unit => True) (fun E (_ : Unit) (_ : State) => E = "java/lang/IndexOutOfBoundsException") (fun q : Nat => sz ≤ q)) 1 6 (fun q : Nat => sz ≤ q) := by
  refine vx_ofW (cc := cX10_worlds) (maxL := 2) (ret := (some .int)) (by decide) rfl ?_
  intro p e s m args below meth c s₁ B hml hte hv
  obtain ⟨rfl, hsz, hP, hK, ham⟩ := hv
  have hx := B.exec
  have hb := B.bytes
  have hr := B.returns
  have hts := atoms_spec B.pre
  have hq : ∀ w ∈ tw, w.before _ s = true := fun w h => hts w (List.mem_cons_of_mem _ h)
  have hown : s.vm.findClass RX10 = some m.cls := findClass_of_methodNamed B.named
  have hlocks := B.notSynchronized
  subst hsz
  generalize hAe : (fun q : Nat => s.heap.size ≤ q) = A at ham ⊢
  have hA : ∀ q : Nat, s.heap.size ≤ q → A q := fun q h => by rw [← hAe]; exact h
  have hS : va_S A s.heap s.heap [] := va_S.rf
  have hP : va_P (dC, dI) cls [(h0, .inr (10, [.ref r0, .ref d0, .ref g0, .ref g1, .ref y1, .ref s1, .ref l1, .ref w1])), (r0, .inr (7, [.ref a1, .ref a2, .ref a3, .ref a4, .ref a5, .ref a6, .ref a7, .int 0])), (d0, .inr (2, [.ref b1, .ref b2, .ref b3, .int 0, .int (-1), .int (-1)])), (g0, .inr (4, [.ref f0, .ref n0, .ref y0, .int 0, .int 0, .int 0, .int 45])), (f0, .inr (3, [.ref r0, .ref d0, .ref z1, .ref z2, .ref z3, .ref z4, .ref z5, .int 0, .int 0]))] s.heap := hP
  have hl := lv_entry ([.ref h0, .int p1]) (n := 2) (Nat.le_of_ble_eq_true rfl)
  rw [lg_entry_eq]
  generalize (lg_sl ([.ref h0, .int p1]) ++ List.replicate (2 - (lg_sl ([.ref h0, .int p1])).length) Slot.unset).toArray = ls at hl ⊢
  have hl : lv_has ls 2 [(0, .ref h0), (1, .int p1)] := hl
  refine lv_aload_n hx hb dX10_worlds_0 rfl (lv_at hl 0 rfl) ?_
  refine lv_iload_n hx hb dX10_worlds_1 rfl (lv_at hl 1 rfl) ?_
  have hPc := hP.sub (ws' := [(h0, .inr (10, [.ref r0, .ref d0, .ref g0, .ref g1, .ref y1, .ref s1, .ref l1, .ref w1])), (d0, .inr (2, [.ref b1, .ref b2, .ref b3, .int 0, .int (-1), .int (-1)]))]) [0, 2] rfl
  have hKc := hK.sub (tys' := []) [] rfl
  refine vx_callv (vx_runV (As := [.int p1]) (rest := []) ⟨hx, hb, hml, hown, hq⟩ (c_requireSeat l hst tE adK adV dC dI h0 r0 d0 g0 g1 y1 s1 l1 w1 b1 b2 b3 p1 s.heap.size) (tcV 1 hq q_866 q_1 q_863 q_865 qp_14 rfl rfl (by decide +kernel) ⟨Nat.le_of_ble_eq_true rfl, Nat.le_of_ble_eq_true rfl⟩) (preR.V (va_recv hK hP (ci := 10) (q0 := 0) rfl rfl) (preR.of hPc hKc ham hS hA)) rfl rfl hl.1 rfl (lv_room (Nat.le_of_ble_eq_true rfl)) dX10_worlds_2 ⟨Nat.le_of_ble_eq_true rfl, Nat.le_of_ble_eq_true rfl⟩) hS (fun q _ h => hA q (Nat.le_trans hS.1 h)) (fun q h => hA q (Nat.le_trans hS.1 h)) (fun q _ h => hA q (Nat.le_trans hS.1 h)) (fun E ce q9 u t H1 locs ht hvm hpx hB hz1 hk1 hS hce hcv hcl => ?_) (fun u t H1 locs ht hvm hw hB hz1 hk1 hS => ?_)
  · have hE : E = "java/lang/IndexOutOfBoundsException" := hB
    exact vx_out (fun x9 h9 => (hte x9 h9).elim) hlocks hce hcv hcl (vx_thru hE hS) hS.2.2 (Nat.le_of_ble_eq_true rfl) (Nat.le_of_ble_eq_true rfl)
  · exact (hw : False).elim
abbrev cX10_possible : ByteArray := prog_1_method_29_code
def yX10_possible : MethodName := ⟨RX10, "possible", "(III)I"⟩
theorem dX10_possible_0 : decode cX10_possible 0 = .ok (.aload_n 0, 1) := by decide +kernel
theorem dX10_possible_1 : decode cX10_possible 1 = .ok (.iload_n 1, 1) := by decide +kernel
theorem dX10_possible_2 : decode cX10_possible 2 = .ok (.invokevirtual 162, 3) := by decide +kernel
set_option maxHeartbeats 4000000 in
set_option maxRecDepth 100000 in
theorem c_X_possible (l : Launch) (hst : l.stackTraces = false) (tE : Nat) (adK adV : Nat → Nat) (dC : Nat → ClassId) (dI : Nat → Nat → Nat) (h0 : Nat) (r0 : Nat) (d0 : Nat) (g0 : Nat) (g1 : Nat) (y1 : Nat) (s1 : Nat) (l1 : Nat) (w1 : Nat) (a1 : Nat) (a2 : Nat) (a3 : Nat) (a4 : Nat) (a5 : Nat) (a6 : Nat) (a7 : Nat) (b1 : Nat) (b2 : Nat) (b3 : Nat) (f0 : Nat) (n0 : Nat) (y0 : Nat) (z1 : Nat) (z2 : Nat) (z3 : Nat) (z4 : Nat) (z5 : Nat) (p1 : Int32) (p2 : Int32) (p3 : Int32) (sz : Nat) : vx_Met l yX10_possible (Cond.code yX10_possible cX10_possible 4 (some .int) :: tw) ({ frames := 7, cells := 1, slots := 6, locals := 103 }) (va_Pc [.ref h0, .int p1, .int p2, .int p3] (preR tE adK adV (dC, dI) [(h0, .inr (10, [.ref r0, .ref d0, .ref g0, .ref g1, .ref y1, .ref s1, .ref l1, .ref w1])), (r0, .inr (7, [.ref a1, .ref a2, .ref a3, .ref a4, .ref a5, .ref a6, .ref a7, .int 0])), (d0, .inr (2, [.ref b1, .ref b2, .ref b3, .int 0, .int (-1), .int (-1)])), (g0, .inr (4, [.ref f0, .ref n0, .ref y0, .int 0, .int 0, .int 0, .int 45])), (f0, .inr (3, [.ref r0, .ref d0, .ref z1, .ref z2, .ref z3, .ref z4, .ref z5, .int 0, .int 0]))] [] sz)) (va_Qi (fun (r : Int32) (_ : Unit) => False) (fun (_ : Unit) (_ : State) => True) (fun q : Nat => sz ≤ q)) (vx_X (fun _ : Unit => True) (fun E (_ : Unit) (_ : State) => E = "java/lang/IndexOutOfBoundsException") (fun q : Nat => sz ≤ q)) 1 6 (fun q : Nat => sz ≤ q) := by
  refine vx_ofW (cc := cX10_possible) (maxL := 4) (ret := (some .int)) (by decide) rfl ?_
  intro p e s m args below meth c s₁ B hml hte hv
  obtain ⟨rfl, hsz, hP, hK, ham⟩ := hv
  have hx := B.exec
  have hb := B.bytes
  have hr := B.returns
  have hts := atoms_spec B.pre
  have hq : ∀ w ∈ tw, w.before _ s = true := fun w h => hts w (List.mem_cons_of_mem _ h)
  have hown : s.vm.findClass RX10 = some m.cls := findClass_of_methodNamed B.named
  have hlocks := B.notSynchronized
  subst hsz
  generalize hAe : (fun q : Nat => s.heap.size ≤ q) = A at ham ⊢
  have hA : ∀ q : Nat, s.heap.size ≤ q → A q := fun q h => by rw [← hAe]; exact h
  have hS : va_S A s.heap s.heap [] := va_S.rf
  have hP : va_P (dC, dI) cls [(h0, .inr (10, [.ref r0, .ref d0, .ref g0, .ref g1, .ref y1, .ref s1, .ref l1, .ref w1])), (r0, .inr (7, [.ref a1, .ref a2, .ref a3, .ref a4, .ref a5, .ref a6, .ref a7, .int 0])), (d0, .inr (2, [.ref b1, .ref b2, .ref b3, .int 0, .int (-1), .int (-1)])), (g0, .inr (4, [.ref f0, .ref n0, .ref y0, .int 0, .int 0, .int 0, .int 45])), (f0, .inr (3, [.ref r0, .ref d0, .ref z1, .ref z2, .ref z3, .ref z4, .ref z5, .int 0, .int 0]))] s.heap := hP
  have hl := lv_entry ([.ref h0, .int p1, .int p2, .int p3]) (n := 4) (Nat.le_of_ble_eq_true rfl)
  rw [lg_entry_eq]
  generalize (lg_sl ([.ref h0, .int p1, .int p2, .int p3]) ++ List.replicate (4 - (lg_sl ([.ref h0, .int p1, .int p2, .int p3])).length) Slot.unset).toArray = ls at hl ⊢
  have hl : lv_has ls 4 [(0, .ref h0), (1, .int p1), (2, .int p2), (3, .int p3)] := hl
  refine lv_aload_n hx hb dX10_possible_0 rfl (lv_at hl 0 rfl) ?_
  refine lv_iload_n hx hb dX10_possible_1 rfl (lv_at hl 1 rfl) ?_
  have hPc := hP.sub (ws' := [(h0, .inr (10, [.ref r0, .ref d0, .ref g0, .ref g1, .ref y1, .ref s1, .ref l1, .ref w1])), (d0, .inr (2, [.ref b1, .ref b2, .ref b3, .int 0, .int (-1), .int (-1)]))]) [0, 2] rfl
  have hKc := hK.sub (tys' := []) [] rfl
  refine vx_callv (vx_runV (As := [.int p1]) (rest := []) ⟨hx, hb, hml, hown, hq⟩ (c_requireSeat l hst tE adK adV dC dI h0 r0 d0 g0 g1 y1 s1 l1 w1 b1 b2 b3 p1 s.heap.size) (tcV 1 hq q_866 q_1 q_863 q_865 qp_14 rfl rfl (by decide +kernel) ⟨Nat.le_of_ble_eq_true rfl, Nat.le_of_ble_eq_true rfl⟩) (preR.V (va_recv hK hP (ci := 10) (q0 := 0) rfl rfl) (preR.of hPc hKc ham hS hA)) rfl rfl hl.1 rfl (lv_room (Nat.le_of_ble_eq_true rfl)) dX10_possible_2 ⟨Nat.le_of_ble_eq_true rfl, Nat.le_of_ble_eq_true rfl⟩) hS (fun q _ h => hA q (Nat.le_trans hS.1 h)) (fun q h => hA q (Nat.le_trans hS.1 h)) (fun q _ h => hA q (Nat.le_trans hS.1 h)) (fun E ce q9 u t H1 locs ht hvm hpx hB hz1 hk1 hS hce hcv hcl => ?_) (fun u t H1 locs ht hvm hw hB hz1 hk1 hS => ?_)
  · have hE : E = "java/lang/IndexOutOfBoundsException" := hB
    exact vx_out (fun x9 h9 => (hte x9 h9).elim) hlocks hce hcv hcl (vx_thru hE hS) hS.2.2 (Nat.le_of_ble_eq_true rfl) (Nat.le_of_ble_eq_true rfl)
  · exact (hw : False).elim
abbrev cX10_sure : ByteArray := prog_1_method_30_code
def yX10_sure : MethodName := ⟨RX10, "sure", "(II)C"⟩
theorem dX10_sure_0 : decode cX10_sure 0 = .ok (.aload_n 0, 1) := by decide +kernel
theorem dX10_sure_1 : decode cX10_sure 1 = .ok (.iload_n 1, 1) := by decide +kernel
theorem dX10_sure_2 : decode cX10_sure 2 = .ok (.invokevirtual 162, 3) := by decide +kernel
set_option maxHeartbeats 4000000 in
set_option maxRecDepth 100000 in
theorem c_X_sure (l : Launch) (hst : l.stackTraces = false) (tE : Nat) (adK adV : Nat → Nat) (dC : Nat → ClassId) (dI : Nat → Nat → Nat) (h0 : Nat) (r0 : Nat) (d0 : Nat) (g0 : Nat) (g1 : Nat) (y1 : Nat) (s1 : Nat) (l1 : Nat) (w1 : Nat) (a1 : Nat) (a2 : Nat) (a3 : Nat) (a4 : Nat) (a5 : Nat) (a6 : Nat) (a7 : Nat) (b1 : Nat) (b2 : Nat) (b3 : Nat) (f0 : Nat) (n0 : Nat) (y0 : Nat) (z1 : Nat) (z2 : Nat) (z3 : Nat) (z4 : Nat) (z5 : Nat) (p1 : Int32) (p2 : Int32) (sz : Nat) : vx_Met l yX10_sure (Cond.code yX10_sure cX10_sure 3 (some .char) :: tw) ({ frames := 7, cells := 1, slots := 6, locals := 103 }) (va_Pc [.ref h0, .int p1, .int p2] (preR tE adK adV (dC, dI) [(h0, .inr (10, [.ref r0, .ref d0, .ref g0, .ref g1, .ref y1, .ref s1, .ref l1, .ref w1])), (r0, .inr (7, [.ref a1, .ref a2, .ref a3, .ref a4, .ref a5, .ref a6, .ref a7, .int 0])), (d0, .inr (2, [.ref b1, .ref b2, .ref b3, .int 0, .int (-1), .int (-1)])), (g0, .inr (4, [.ref f0, .ref n0, .ref y0, .int 0, .int 0, .int 0, .int 45])), (f0, .inr (3, [.ref r0, .ref d0, .ref z1, .ref z2, .ref z3, .ref z4, .ref z5, .int 0, .int 0]))] [] sz)) (va_Qi (fun (r : Int32) (_ : Unit) => False) (fun (_ : Unit) (_ : State) => True) (fun q : Nat => sz ≤ q)) (vx_X (fun _ : Unit => True) (fun E (_ : Unit) (_ : State) => E = "java/lang/IndexOutOfBoundsException") (fun q : Nat => sz ≤ q)) 1 6 (fun q : Nat => sz ≤ q) := by
  refine vx_ofW (cc := cX10_sure) (maxL := 3) (ret := (some .char)) (by decide) rfl ?_
  intro p e s m args below meth c s₁ B hml hte hv
  obtain ⟨rfl, hsz, hP, hK, ham⟩ := hv
  have hx := B.exec
  have hb := B.bytes
  have hr := B.returns
  have hts := atoms_spec B.pre
  have hq : ∀ w ∈ tw, w.before _ s = true := fun w h => hts w (List.mem_cons_of_mem _ h)
  have hown : s.vm.findClass RX10 = some m.cls := findClass_of_methodNamed B.named
  have hlocks := B.notSynchronized
  subst hsz
  generalize hAe : (fun q : Nat => s.heap.size ≤ q) = A at ham ⊢
  have hA : ∀ q : Nat, s.heap.size ≤ q → A q := fun q h => by rw [← hAe]; exact h
  have hS : va_S A s.heap s.heap [] := va_S.rf
  have hP : va_P (dC, dI) cls [(h0, .inr (10, [.ref r0, .ref d0, .ref g0, .ref g1, .ref y1, .ref s1, .ref l1, .ref w1])), (r0, .inr (7, [.ref a1, .ref a2, .ref a3, .ref a4, .ref a5, .ref a6, .ref a7, .int 0])), (d0, .inr (2, [.ref b1, .ref b2, .ref b3, .int 0, .int (-1), .int (-1)])), (g0, .inr (4, [.ref f0, .ref n0, .ref y0, .int 0, .int 0, .int 0, .int 45])), (f0, .inr (3, [.ref r0, .ref d0, .ref z1, .ref z2, .ref z3, .ref z4, .ref z5, .int 0, .int 0]))] s.heap := hP
  have hl := lv_entry ([.ref h0, .int p1, .int p2]) (n := 3) (Nat.le_of_ble_eq_true rfl)
  rw [lg_entry_eq]
  generalize (lg_sl ([.ref h0, .int p1, .int p2]) ++ List.replicate (3 - (lg_sl ([.ref h0, .int p1, .int p2])).length) Slot.unset).toArray = ls at hl ⊢
  have hl : lv_has ls 3 [(0, .ref h0), (1, .int p1), (2, .int p2)] := hl
  refine lv_aload_n hx hb dX10_sure_0 rfl (lv_at hl 0 rfl) ?_
  refine lv_iload_n hx hb dX10_sure_1 rfl (lv_at hl 1 rfl) ?_
  have hPc := hP.sub (ws' := [(h0, .inr (10, [.ref r0, .ref d0, .ref g0, .ref g1, .ref y1, .ref s1, .ref l1, .ref w1])), (d0, .inr (2, [.ref b1, .ref b2, .ref b3, .int 0, .int (-1), .int (-1)]))]) [0, 2] rfl
  have hKc := hK.sub (tys' := []) [] rfl
  refine vx_callv (vx_runV (As := [.int p1]) (rest := []) ⟨hx, hb, hml, hown, hq⟩ (c_requireSeat l hst tE adK adV dC dI h0 r0 d0 g0 g1 y1 s1 l1 w1 b1 b2 b3 p1 s.heap.size) (tcV 1 hq q_866 q_1 q_863 q_865 qp_14 rfl rfl (by decide +kernel) ⟨Nat.le_of_ble_eq_true rfl, Nat.le_of_ble_eq_true rfl⟩) (preR.V (va_recv hK hP (ci := 10) (q0 := 0) rfl rfl) (preR.of hPc hKc ham hS hA)) rfl rfl hl.1 rfl (lv_room (Nat.le_of_ble_eq_true rfl)) dX10_sure_2 ⟨Nat.le_of_ble_eq_true rfl, Nat.le_of_ble_eq_true rfl⟩) hS (fun q _ h => hA q (Nat.le_trans hS.1 h)) (fun q h => hA q (Nat.le_trans hS.1 h)) (fun q _ h => hA q (Nat.le_trans hS.1 h)) (fun E ce q9 u t H1 locs ht hvm hpx hB hz1 hk1 hS hce hcv hcl => ?_) (fun u t H1 locs ht hvm hw hB hz1 hk1 hS => ?_)
  · have hE : E = "java/lang/IndexOutOfBoundsException" := hB
    exact vx_out (fun x9 h9 => (hte x9 h9).elim) hlocks hce hcv hcl (vx_thru hE hS) hS.2.2 (Nat.le_of_ble_eq_true rfl) (Nat.le_of_ble_eq_true rfl)
  · exact (hw : False).elim
abbrev cX10_known : ByteArray := prog_1_method_31_code
def yX10_known : MethodName := ⟨RX10, "known", "()I"⟩
theorem dX10_known_0 : decode cX10_known 0 = .ok (.aload_n 0, 1) := by decide +kernel
theorem dX10_known_1 : decode cX10_known 1 = .ok (.invokevirtual 244, 3) := by decide +kernel
set_option maxHeartbeats 4000000 in
set_option maxRecDepth 100000 in
theorem c_X_known (l : Launch) (hst : l.stackTraces = false) (tE : Nat) (adK adV : Nat → Nat) (dC : Nat → ClassId) (dI : Nat → Nat → Nat) (h0 : Nat) (r0 : Nat) (d0 : Nat) (g0 : Nat) (g1 : Nat) (y1 : Nat) (s1 : Nat) (l1 : Nat) (w1 : Nat) (a1 : Nat) (a2 : Nat) (a3 : Nat) (a4 : Nat) (a5 : Nat) (a6 : Nat) (a7 : Nat) (b1 : Nat) (b2 : Nat) (b3 : Nat) (f0 : Nat) (n0 : Nat) (y0 : Nat) (z1 : Nat) (z2 : Nat) (z3 : Nat) (z4 : Nat) (z5 : Nat) (sz : Nat) : vx_Met l yX10_known (Cond.code yX10_known cX10_known 1 (some .int) :: tw) ({ frames := 7, cells := 1, slots := 6, locals := 102 }) (va_Pc [.ref h0] (preR tE adK adV (dC, dI) [(h0, .inr (10, [.ref r0, .ref d0, .ref g0, .ref g1, .ref y1, .ref s1, .ref l1, .ref w1])), (r0, .inr (7, [.ref a1, .ref a2, .ref a3, .ref a4, .ref a5, .ref a6, .ref a7, .int 0])), (d0, .inr (2, [.ref b1, .ref b2, .ref b3, .int 0, .int (-1), .int (-1)])), (g0, .inr (4, [.ref f0, .ref n0, .ref y0, .int 0, .int 0, .int 0, .int 45])), (f0, .inr (3, [.ref r0, .ref d0, .ref z1, .ref z2, .ref z3, .ref z4, .ref z5, .int 0, .int 0]))] [] sz)) (va_Qi (fun (r : Int32) (_ : Unit) => False) (fun (_ : Unit) (_ : State) => True) (fun q : Nat => sz ≤ q)) (vx_X (fun _ : Unit => True) (fun E (_ : Unit) (_ : State) => E = "java/lang/IllegalStateException") (fun q : Nat => sz ≤ q)) 1 6 (fun q : Nat => sz ≤ q) := by
  refine vx_ofW (cc := cX10_known) (maxL := 1) (ret := (some .int)) (by decide) rfl ?_
  intro p e s m args below meth c s₁ B hml hte hv
  obtain ⟨rfl, hsz, hP, hK, ham⟩ := hv
  have hx := B.exec
  have hb := B.bytes
  have hr := B.returns
  have hts := atoms_spec B.pre
  have hq : ∀ w ∈ tw, w.before _ s = true := fun w h => hts w (List.mem_cons_of_mem _ h)
  have hown : s.vm.findClass RX10 = some m.cls := findClass_of_methodNamed B.named
  have hlocks := B.notSynchronized
  subst hsz
  generalize hAe : (fun q : Nat => s.heap.size ≤ q) = A at ham ⊢
  have hA : ∀ q : Nat, s.heap.size ≤ q → A q := fun q h => by rw [← hAe]; exact h
  have hS : va_S A s.heap s.heap [] := va_S.rf
  have hP : va_P (dC, dI) cls [(h0, .inr (10, [.ref r0, .ref d0, .ref g0, .ref g1, .ref y1, .ref s1, .ref l1, .ref w1])), (r0, .inr (7, [.ref a1, .ref a2, .ref a3, .ref a4, .ref a5, .ref a6, .ref a7, .int 0])), (d0, .inr (2, [.ref b1, .ref b2, .ref b3, .int 0, .int (-1), .int (-1)])), (g0, .inr (4, [.ref f0, .ref n0, .ref y0, .int 0, .int 0, .int 0, .int 45])), (f0, .inr (3, [.ref r0, .ref d0, .ref z1, .ref z2, .ref z3, .ref z4, .ref z5, .int 0, .int 0]))] s.heap := hP
  have hl := lv_entry ([.ref h0]) (n := 1) (Nat.le_of_ble_eq_true rfl)
  rw [lg_entry_eq]
  generalize (lg_sl ([.ref h0]) ++ List.replicate (1 - (lg_sl ([.ref h0])).length) Slot.unset).toArray = ls at hl ⊢
  have hl : lv_has ls 1 [(0, .ref h0)] := hl
  refine lv_aload_n hx hb dX10_known_0 rfl (lv_at hl 0 rfl) ?_
  have hPc := hP.sub (ws' := [(h0, .inr (10, [.ref r0, .ref d0, .ref g0, .ref g1, .ref y1, .ref s1, .ref l1, .ref w1])), (g0, .inr (4, [.ref f0, .ref n0, .ref y0, .int 0, .int 0, .int 0, .int 45]))]) [0, 3] rfl
  have hKc := hK.sub (tys' := []) [] rfl
  refine vx_callv (vx_runV (As := []) (rest := []) ⟨hx, hb, hml, hown, hq⟩ (c_requireBegun l hst tE adK adV dC dI h0 r0 d0 g0 g1 y1 s1 l1 w1 f0 n0 y0 s.heap.size) (tcV 0 hq q_1063 q_1 q_1060 q_1062 qp_19 rfl rfl (by decide +kernel) ⟨Nat.le_of_ble_eq_true rfl, Nat.le_of_ble_eq_true rfl⟩) (preR.V (va_recv hK hP (ci := 10) (q0 := 0) rfl rfl) (preR.of hPc hKc ham hS hA)) rfl rfl hl.1 rfl (lv_room (Nat.le_of_ble_eq_true rfl)) dX10_known_1 ⟨Nat.le_of_ble_eq_true rfl, Nat.le_of_ble_eq_true rfl⟩) hS (fun q _ h => hA q (Nat.le_trans hS.1 h)) (fun q h => hA q (Nat.le_trans hS.1 h)) (fun q _ h => hA q (Nat.le_trans hS.1 h)) (fun E ce q9 u t H1 locs ht hvm hpx hB hz1 hk1 hS hce hcv hcl => ?_) (fun u t H1 locs ht hvm hw hB hz1 hk1 hS => ?_)
  · have hE : E = "java/lang/IllegalStateException" := hB
    exact vx_out (fun x9 h9 => (hte x9 h9).elim) hlocks hce hcv hcl (vx_thru hE hS) hS.2.2 (Nat.le_of_ble_eq_true rfl) (Nat.le_of_ble_eq_true rfl)
  · exact (hw : False).elim
abbrev cX10_claim : ByteArray := prog_1_method_32_code
def yX10_claim : MethodName := ⟨RX10, "claim", "(IIC)I"⟩
theorem dX10_claim_0 : decode cX10_claim 0 = .ok (.aload_n 0, 1) := by decide +kernel
theorem dX10_claim_1 : decode cX10_claim 1 = .ok (.iload_n 1, 1) := by decide +kernel
theorem dX10_claim_2 : decode cX10_claim 2 = .ok (.iload_n 2, 1) := by decide +kernel
theorem dX10_claim_3 : decode cX10_claim 3 = .ok (.invokevirtual 119, 3) := by decide +kernel
set_option maxHeartbeats 4000000 in
set_option maxRecDepth 100000 in
theorem c_X_claim (l : Launch) (hst : l.stackTraces = false) (tE : Nat) (adK adV : Nat → Nat) (dC : Nat → ClassId) (dI : Nat → Nat → Nat) (h0 : Nat) (r0 : Nat) (d0 : Nat) (g0 : Nat) (g1 : Nat) (y1 : Nat) (s1 : Nat) (l1 : Nat) (w1 : Nat) (a1 : Nat) (a2 : Nat) (a3 : Nat) (a4 : Nat) (a5 : Nat) (a6 : Nat) (a7 : Nat) (b1 : Nat) (b2 : Nat) (b3 : Nat) (f0 : Nat) (n0 : Nat) (y0 : Nat) (z1 : Nat) (z2 : Nat) (z3 : Nat) (z4 : Nat) (z5 : Nat) (p1 : Int32) (p2 : Int32) (p3 : Int32) (sz : Nat) : vx_Met l yX10_claim (Cond.code yX10_claim cX10_claim 4 (some .int) :: tw) ({ frames := 8, cells := 1, slots := 6, locals := 125 }) (va_Pc [.ref h0, .int p1, .int p2, .int p3] (preR tE adK adV (dC, dI) [(h0, .inr (10, [.ref r0, .ref d0, .ref g0, .ref g1, .ref y1, .ref s1, .ref l1, .ref w1])), (r0, .inr (7, [.ref a1, .ref a2, .ref a3, .ref a4, .ref a5, .ref a6, .ref a7, .int 0])), (d0, .inr (2, [.ref b1, .ref b2, .ref b3, .int 0, .int (-1), .int (-1)])), (g0, .inr (4, [.ref f0, .ref n0, .ref y0, .int 0, .int 0, .int 0, .int 45])), (f0, .inr (3, [.ref r0, .ref d0, .ref z1, .ref z2, .ref z3, .ref z4, .ref z5, .int 0, .int 0]))] [] sz)) (va_Qi (fun (r : Int32) (_ : Unit) => False) (fun (_ : Unit) (_ : State) => True) (fun q : Nat => sz ≤ q)) (vx_X (fun _ : Unit => True) (fun E (_ : Unit) (_ : State) => E = "java/lang/IndexOutOfBoundsException") (fun q : Nat => sz ≤ q)) 1 6 (fun q : Nat => sz ≤ q) := by
  refine vx_ofW (cc := cX10_claim) (maxL := 4) (ret := (some .int)) (by decide) rfl ?_
  intro p e s m args below meth c s₁ B hml hte hv
  obtain ⟨rfl, hsz, hP, hK, ham⟩ := hv
  have hx := B.exec
  have hb := B.bytes
  have hr := B.returns
  have hts := atoms_spec B.pre
  have hq : ∀ w ∈ tw, w.before _ s = true := fun w h => hts w (List.mem_cons_of_mem _ h)
  have hown : s.vm.findClass RX10 = some m.cls := findClass_of_methodNamed B.named
  have hlocks := B.notSynchronized
  subst hsz
  generalize hAe : (fun q : Nat => s.heap.size ≤ q) = A at ham ⊢
  have hA : ∀ q : Nat, s.heap.size ≤ q → A q := fun q h => by rw [← hAe]; exact h
  have hS : va_S A s.heap s.heap [] := va_S.rf
  have hP : va_P (dC, dI) cls [(h0, .inr (10, [.ref r0, .ref d0, .ref g0, .ref g1, .ref y1, .ref s1, .ref l1, .ref w1])), (r0, .inr (7, [.ref a1, .ref a2, .ref a3, .ref a4, .ref a5, .ref a6, .ref a7, .int 0])), (d0, .inr (2, [.ref b1, .ref b2, .ref b3, .int 0, .int (-1), .int (-1)])), (g0, .inr (4, [.ref f0, .ref n0, .ref y0, .int 0, .int 0, .int 0, .int 45])), (f0, .inr (3, [.ref r0, .ref d0, .ref z1, .ref z2, .ref z3, .ref z4, .ref z5, .int 0, .int 0]))] s.heap := hP
  have hl := lv_entry ([.ref h0, .int p1, .int p2, .int p3]) (n := 4) (Nat.le_of_ble_eq_true rfl)
  rw [lg_entry_eq]
  generalize (lg_sl ([.ref h0, .int p1, .int p2, .int p3]) ++ List.replicate (4 - (lg_sl ([.ref h0, .int p1, .int p2, .int p3])).length) Slot.unset).toArray = ls at hl ⊢
  have hl : lv_has ls 4 [(0, .ref h0), (1, .int p1), (2, .int p2), (3, .int p3)] := hl
  refine lv_aload_n hx hb dX10_claim_0 rfl (lv_at hl 0 rfl) ?_
  refine lv_iload_n hx hb dX10_claim_1 rfl (lv_at hl 1 rfl) ?_
  refine lv_iload_n hx hb dX10_claim_2 rfl (lv_at hl 2 rfl) ?_
  have hPc := hP.sub (ws' := [(h0, .inr (10, [.ref r0, .ref d0, .ref g0, .ref g1, .ref y1, .ref s1, .ref l1, .ref w1])), (d0, .inr (2, [.ref b1, .ref b2, .ref b3, .int 0, .int (-1), .int (-1)]))]) [0, 2] rfl
  have hKc := hK.sub (tys' := []) [] rfl
  refine vx_callv (vx_runV (As := [.int p1, .int p2]) (rest := []) ⟨hx, hb, hml, hown, hq⟩ (c_requireTwoSeats l hst tE adK adV dC dI h0 r0 d0 g0 g1 y1 s1 l1 w1 b1 b2 b3 p1 p2 s.heap.size) (tcV 2 hq q_862 q_1 q_859 q_861 qp_13 rfl rfl (by decide +kernel) ⟨Nat.le_of_ble_eq_true rfl, Nat.le_of_ble_eq_true rfl⟩) (preR.V (va_recv hK hP (ci := 10) (q0 := 0) rfl rfl) (preR.of hPc hKc ham hS hA)) rfl rfl hl.1 rfl (lv_room (Nat.le_of_ble_eq_true rfl)) dX10_claim_3 ⟨Nat.le_of_ble_eq_true rfl, Nat.le_of_ble_eq_true rfl⟩) hS (fun q _ h => hA q (Nat.le_trans hS.1 h)) (fun q h => hA q (Nat.le_trans hS.1 h)) (fun q _ h => hA q (Nat.le_trans hS.1 h)) (fun E ce q9 u t H1 locs ht hvm hpx hB hz1 hk1 hS hce hcv hcl => ?_) (fun u t H1 locs ht hvm hw hB hz1 hk1 hS => ?_)
  · have hE : E = "java/lang/IndexOutOfBoundsException" := hB
    exact vx_out (fun x9 h9 => (hte x9 h9).elim) hlocks hce hcv hcl (vx_thru hE hS) hS.2.2 (Nat.le_of_ble_eq_true rfl) (Nat.le_of_ble_eq_true rfl)
  · exact (hw : False).elim
abbrev cX10_holds : ByteArray := prog_1_method_33_code
def yX10_holds : MethodName := ⟨RX10, "holds", "(II)C"⟩
theorem dX10_holds_0 : decode cX10_holds 0 = .ok (.aload_n 0, 1) := by decide +kernel
theorem dX10_holds_1 : decode cX10_holds 1 = .ok (.iload_n 1, 1) := by decide +kernel
theorem dX10_holds_2 : decode cX10_holds 2 = .ok (.invokevirtual 162, 3) := by decide +kernel
set_option maxHeartbeats 4000000 in
set_option maxRecDepth 100000 in
theorem c_X_holds (l : Launch) (hst : l.stackTraces = false) (tE : Nat) (adK adV : Nat → Nat) (dC : Nat → ClassId) (dI : Nat → Nat → Nat) (h0 : Nat) (r0 : Nat) (d0 : Nat) (g0 : Nat) (g1 : Nat) (y1 : Nat) (s1 : Nat) (l1 : Nat) (w1 : Nat) (a1 : Nat) (a2 : Nat) (a3 : Nat) (a4 : Nat) (a5 : Nat) (a6 : Nat) (a7 : Nat) (b1 : Nat) (b2 : Nat) (b3 : Nat) (f0 : Nat) (n0 : Nat) (y0 : Nat) (z1 : Nat) (z2 : Nat) (z3 : Nat) (z4 : Nat) (z5 : Nat) (p1 : Int32) (p2 : Int32) (sz : Nat) : vx_Met l yX10_holds (Cond.code yX10_holds cX10_holds 3 (some .char) :: tw) ({ frames := 7, cells := 1, slots := 6, locals := 103 }) (va_Pc [.ref h0, .int p1, .int p2] (preR tE adK adV (dC, dI) [(h0, .inr (10, [.ref r0, .ref d0, .ref g0, .ref g1, .ref y1, .ref s1, .ref l1, .ref w1])), (r0, .inr (7, [.ref a1, .ref a2, .ref a3, .ref a4, .ref a5, .ref a6, .ref a7, .int 0])), (d0, .inr (2, [.ref b1, .ref b2, .ref b3, .int 0, .int (-1), .int (-1)])), (g0, .inr (4, [.ref f0, .ref n0, .ref y0, .int 0, .int 0, .int 0, .int 45])), (f0, .inr (3, [.ref r0, .ref d0, .ref z1, .ref z2, .ref z3, .ref z4, .ref z5, .int 0, .int 0]))] [] sz)) (va_Qi (fun (r : Int32) (_ : Unit) => False) (fun (_ : Unit) (_ : State) => True) (fun q : Nat => sz ≤ q)) (vx_X (fun _ : Unit => True) (fun E (_ : Unit) (_ : State) => E = "java/lang/IndexOutOfBoundsException") (fun q : Nat => sz ≤ q)) 1 6 (fun q : Nat => sz ≤ q) := by
  refine vx_ofW (cc := cX10_holds) (maxL := 3) (ret := (some .char)) (by decide) rfl ?_
  intro p e s m args below meth c s₁ B hml hte hv
  obtain ⟨rfl, hsz, hP, hK, ham⟩ := hv
  have hx := B.exec
  have hb := B.bytes
  have hr := B.returns
  have hts := atoms_spec B.pre
  have hq : ∀ w ∈ tw, w.before _ s = true := fun w h => hts w (List.mem_cons_of_mem _ h)
  have hown : s.vm.findClass RX10 = some m.cls := findClass_of_methodNamed B.named
  have hlocks := B.notSynchronized
  subst hsz
  generalize hAe : (fun q : Nat => s.heap.size ≤ q) = A at ham ⊢
  have hA : ∀ q : Nat, s.heap.size ≤ q → A q := fun q h => by rw [← hAe]; exact h
  have hS : va_S A s.heap s.heap [] := va_S.rf
  have hP : va_P (dC, dI) cls [(h0, .inr (10, [.ref r0, .ref d0, .ref g0, .ref g1, .ref y1, .ref s1, .ref l1, .ref w1])), (r0, .inr (7, [.ref a1, .ref a2, .ref a3, .ref a4, .ref a5, .ref a6, .ref a7, .int 0])), (d0, .inr (2, [.ref b1, .ref b2, .ref b3, .int 0, .int (-1), .int (-1)])), (g0, .inr (4, [.ref f0, .ref n0, .ref y0, .int 0, .int 0, .int 0, .int 45])), (f0, .inr (3, [.ref r0, .ref d0, .ref z1, .ref z2, .ref z3, .ref z4, .ref z5, .int 0, .int 0]))] s.heap := hP
  have hl := lv_entry ([.ref h0, .int p1, .int p2]) (n := 3) (Nat.le_of_ble_eq_true rfl)
  rw [lg_entry_eq]
  generalize (lg_sl ([.ref h0, .int p1, .int p2]) ++ List.replicate (3 - (lg_sl ([.ref h0, .int p1, .int p2])).length) Slot.unset).toArray = ls at hl ⊢
  have hl : lv_has ls 3 [(0, .ref h0), (1, .int p1), (2, .int p2)] := hl
  refine lv_aload_n hx hb dX10_holds_0 rfl (lv_at hl 0 rfl) ?_
  refine lv_iload_n hx hb dX10_holds_1 rfl (lv_at hl 1 rfl) ?_
  have hPc := hP.sub (ws' := [(h0, .inr (10, [.ref r0, .ref d0, .ref g0, .ref g1, .ref y1, .ref s1, .ref l1, .ref w1])), (d0, .inr (2, [.ref b1, .ref b2, .ref b3, .int 0, .int (-1), .int (-1)]))]) [0, 2] rfl
  have hKc := hK.sub (tys' := []) [] rfl
  refine vx_callv (vx_runV (As := [.int p1]) (rest := []) ⟨hx, hb, hml, hown, hq⟩ (c_requireSeat l hst tE adK adV dC dI h0 r0 d0 g0 g1 y1 s1 l1 w1 b1 b2 b3 p1 s.heap.size) (tcV 1 hq q_866 q_1 q_863 q_865 qp_14 rfl rfl (by decide +kernel) ⟨Nat.le_of_ble_eq_true rfl, Nat.le_of_ble_eq_true rfl⟩) (preR.V (va_recv hK hP (ci := 10) (q0 := 0) rfl rfl) (preR.of hPc hKc ham hS hA)) rfl rfl hl.1 rfl (lv_room (Nat.le_of_ble_eq_true rfl)) dX10_holds_2 ⟨Nat.le_of_ble_eq_true rfl, Nat.le_of_ble_eq_true rfl⟩) hS (fun q _ h => hA q (Nat.le_trans hS.1 h)) (fun q h => hA q (Nat.le_trans hS.1 h)) (fun q _ h => hA q (Nat.le_trans hS.1 h)) (fun E ce q9 u t H1 locs ht hvm hpx hB hz1 hk1 hS hce hcv hcl => ?_) (fun u t H1 locs ht hvm hw hB hz1 hk1 hS => ?_)
  · have hE : E = "java/lang/IndexOutOfBoundsException" := hB
    exact vx_out (fun x9 h9 => (hte x9 h9).elim) hlocks hce hcv hcl (vx_thru hE hS) hS.2.2 (Nat.le_of_ble_eq_true rfl) (Nat.le_of_ble_eq_true rfl)
  · exact (hw : False).elim
abbrev cX10_liars : ByteArray := prog_1_method_34_code
def yX10_liars : MethodName := ⟨RX10, "liars", "(I)I"⟩
theorem dX10_liars_0 : decode cX10_liars 0 = .ok (.aload_n 0, 1) := by decide +kernel
theorem dX10_liars_1 : decode cX10_liars 1 = .ok (.iload_n 1, 1) := by decide +kernel
theorem dX10_liars_2 : decode cX10_liars 2 = .ok (.invokevirtual 162, 3) := by decide +kernel
set_option maxHeartbeats 4000000 in
set_option maxRecDepth 100000 in
theorem c_X_liars (l : Launch) (hst : l.stackTraces = false) (tE : Nat) (adK adV : Nat → Nat) (dC : Nat → ClassId) (dI : Nat → Nat → Nat) (h0 : Nat) (r0 : Nat) (d0 : Nat) (g0 : Nat) (g1 : Nat) (y1 : Nat) (s1 : Nat) (l1 : Nat) (w1 : Nat) (a1 : Nat) (a2 : Nat) (a3 : Nat) (a4 : Nat) (a5 : Nat) (a6 : Nat) (a7 : Nat) (b1 : Nat) (b2 : Nat) (b3 : Nat) (f0 : Nat) (n0 : Nat) (y0 : Nat) (z1 : Nat) (z2 : Nat) (z3 : Nat) (z4 : Nat) (z5 : Nat) (p1 : Int32) (sz : Nat) : vx_Met l yX10_liars (Cond.code yX10_liars cX10_liars 2 (some .int) :: tw) ({ frames := 7, cells := 1, slots := 6, locals := 103 }) (va_Pc [.ref h0, .int p1] (preR tE adK adV (dC, dI) [(h0, .inr (10, [.ref r0, .ref d0, .ref g0, .ref g1, .ref y1, .ref s1, .ref l1, .ref w1])), (r0, .inr (7, [.ref a1, .ref a2, .ref a3, .ref a4, .ref a5, .ref a6, .ref a7, .int 0])), (d0, .inr (2, [.ref b1, .ref b2, .ref b3, .int 0, .int (-1), .int (-1)])), (g0, .inr (4, [.ref f0, .ref n0, .ref y0, .int 0, .int 0, .int 0, .int 45])), (f0, .inr (3, [.ref r0, .ref d0, .ref z1, .ref z2, .ref z3, .ref z4, .ref z5, .int 0, .int 0]))] [] sz)) (va_Qi (fun (r : Int32) (_ : Unit) => False) (fun (_ : Unit) (_ : State) => True) (fun q : Nat => sz ≤ q)) (vx_X (fun _ : Unit => True) (fun E (_ : Unit) (_ : State) => E = "java/lang/IndexOutOfBoundsException") (fun q : Nat => sz ≤ q)) 1 6 (fun q : Nat => sz ≤ q) := by
  refine vx_ofW (cc := cX10_liars) (maxL := 2) (ret := (some .int)) (by decide) rfl ?_
  intro p e s m args below meth c s₁ B hml hte hv
  obtain ⟨rfl, hsz, hP, hK, ham⟩ := hv
  have hx := B.exec
  have hb := B.bytes
  have hr := B.returns
  have hts := atoms_spec B.pre
  have hq : ∀ w ∈ tw, w.before _ s = true := fun w h => hts w (List.mem_cons_of_mem _ h)
  have hown : s.vm.findClass RX10 = some m.cls := findClass_of_methodNamed B.named
  have hlocks := B.notSynchronized
  subst hsz
  generalize hAe : (fun q : Nat => s.heap.size ≤ q) = A at ham ⊢
  have hA : ∀ q : Nat, s.heap.size ≤ q → A q := fun q h => by rw [← hAe]; exact h
  have hS : va_S A s.heap s.heap [] := va_S.rf
  have hP : va_P (dC, dI) cls [(h0, .inr (10, [.ref r0, .ref d0, .ref g0, .ref g1, .ref y1, .ref s1, .ref l1, .ref w1])), (r0, .inr (7, [.ref a1, .ref a2, .ref a3, .ref a4, .ref a5, .ref a6, .ref a7, .int 0])), (d0, .inr (2, [.ref b1, .ref b2, .ref b3, .int 0, .int (-1), .int (-1)])), (g0, .inr (4, [.ref f0, .ref n0, .ref y0, .int 0, .int 0, .int 0, .int 45])), (f0, .inr (3, [.ref r0, .ref d0, .ref z1, .ref z2, .ref z3, .ref z4, .ref z5, .int 0, .int 0]))] s.heap := hP
  have hl := lv_entry ([.ref h0, .int p1]) (n := 2) (Nat.le_of_ble_eq_true rfl)
  rw [lg_entry_eq]
  generalize (lg_sl ([.ref h0, .int p1]) ++ List.replicate (2 - (lg_sl ([.ref h0, .int p1])).length) Slot.unset).toArray = ls at hl ⊢
  have hl : lv_has ls 2 [(0, .ref h0), (1, .int p1)] := hl
  refine lv_aload_n hx hb dX10_liars_0 rfl (lv_at hl 0 rfl) ?_
  refine lv_iload_n hx hb dX10_liars_1 rfl (lv_at hl 1 rfl) ?_
  have hPc := hP.sub (ws' := [(h0, .inr (10, [.ref r0, .ref d0, .ref g0, .ref g1, .ref y1, .ref s1, .ref l1, .ref w1])), (d0, .inr (2, [.ref b1, .ref b2, .ref b3, .int 0, .int (-1), .int (-1)]))]) [0, 2] rfl
  have hKc := hK.sub (tys' := []) [] rfl
  refine vx_callv (vx_runV (As := [.int p1]) (rest := []) ⟨hx, hb, hml, hown, hq⟩ (c_requireSeat l hst tE adK adV dC dI h0 r0 d0 g0 g1 y1 s1 l1 w1 b1 b2 b3 p1 s.heap.size) (tcV 1 hq q_866 q_1 q_863 q_865 qp_14 rfl rfl (by decide +kernel) ⟨Nat.le_of_ble_eq_true rfl, Nat.le_of_ble_eq_true rfl⟩) (preR.V (va_recv hK hP (ci := 10) (q0 := 0) rfl rfl) (preR.of hPc hKc ham hS hA)) rfl rfl hl.1 rfl (lv_room (Nat.le_of_ble_eq_true rfl)) dX10_liars_2 ⟨Nat.le_of_ble_eq_true rfl, Nat.le_of_ble_eq_true rfl⟩) hS (fun q _ h => hA q (Nat.le_trans hS.1 h)) (fun q h => hA q (Nat.le_trans hS.1 h)) (fun q _ h => hA q (Nat.le_trans hS.1 h)) (fun E ce q9 u t H1 locs ht hvm hpx hB hz1 hk1 hS hce hcv hcl => ?_) (fun u t H1 locs ht hvm hw hB hz1 hk1 hS => ?_)
  · have hE : E = "java/lang/IndexOutOfBoundsException" := hB
    exact vx_out (fun x9 h9 => (hte x9 h9).elim) hlocks hce hcv hcl (vx_thru hE hS) hS.2.2 (Nat.le_of_ble_eq_true rfl) (Nat.le_of_ble_eq_true rfl)
  · exact (hw : False).elim
abbrev cX10_changed : ByteArray := prog_1_method_35_code
def yX10_changed : MethodName := ⟨RX10, "changed", "(II)C"⟩
theorem dX10_changed_0 : decode cX10_changed 0 = .ok (.aload_n 0, 1) := by decide +kernel
theorem dX10_changed_1 : decode cX10_changed 1 = .ok (.iload_n 1, 1) := by decide +kernel
theorem dX10_changed_2 : decode cX10_changed 2 = .ok (.iload_n 2, 1) := by decide +kernel
theorem dX10_changed_3 : decode cX10_changed 3 = .ok (.invokevirtual 119, 3) := by decide +kernel
set_option maxHeartbeats 4000000 in
set_option maxRecDepth 100000 in
theorem c_X_changed (l : Launch) (hst : l.stackTraces = false) (tE : Nat) (adK adV : Nat → Nat) (dC : Nat → ClassId) (dI : Nat → Nat → Nat) (h0 : Nat) (r0 : Nat) (d0 : Nat) (g0 : Nat) (g1 : Nat) (y1 : Nat) (s1 : Nat) (l1 : Nat) (w1 : Nat) (a1 : Nat) (a2 : Nat) (a3 : Nat) (a4 : Nat) (a5 : Nat) (a6 : Nat) (a7 : Nat) (b1 : Nat) (b2 : Nat) (b3 : Nat) (f0 : Nat) (n0 : Nat) (y0 : Nat) (z1 : Nat) (z2 : Nat) (z3 : Nat) (z4 : Nat) (z5 : Nat) (p1 : Int32) (p2 : Int32) (sz : Nat) : vx_Met l yX10_changed (Cond.code yX10_changed cX10_changed 3 (some .char) :: tw) ({ frames := 8, cells := 1, slots := 6, locals := 125 }) (va_Pc [.ref h0, .int p1, .int p2] (preR tE adK adV (dC, dI) [(h0, .inr (10, [.ref r0, .ref d0, .ref g0, .ref g1, .ref y1, .ref s1, .ref l1, .ref w1])), (r0, .inr (7, [.ref a1, .ref a2, .ref a3, .ref a4, .ref a5, .ref a6, .ref a7, .int 0])), (d0, .inr (2, [.ref b1, .ref b2, .ref b3, .int 0, .int (-1), .int (-1)])), (g0, .inr (4, [.ref f0, .ref n0, .ref y0, .int 0, .int 0, .int 0, .int 45])), (f0, .inr (3, [.ref r0, .ref d0, .ref z1, .ref z2, .ref z3, .ref z4, .ref z5, .int 0, .int 0]))] [] sz)) (va_Qi (fun (r : Int32) (_ : Unit) => False) (fun (_ : Unit) (_ : State) => True) (fun q : Nat => sz ≤ q)) (vx_X (fun _ : Unit => True) (fun E (_ : Unit) (_ : State) => E = "java/lang/IndexOutOfBoundsException") (fun q : Nat => sz ≤ q)) 1 6 (fun q : Nat => sz ≤ q) := by
  refine vx_ofW (cc := cX10_changed) (maxL := 3) (ret := (some .char)) (by decide) rfl ?_
  intro p e s m args below meth c s₁ B hml hte hv
  obtain ⟨rfl, hsz, hP, hK, ham⟩ := hv
  have hx := B.exec
  have hb := B.bytes
  have hr := B.returns
  have hts := atoms_spec B.pre
  have hq : ∀ w ∈ tw, w.before _ s = true := fun w h => hts w (List.mem_cons_of_mem _ h)
  have hown : s.vm.findClass RX10 = some m.cls := findClass_of_methodNamed B.named
  have hlocks := B.notSynchronized
  subst hsz
  generalize hAe : (fun q : Nat => s.heap.size ≤ q) = A at ham ⊢
  have hA : ∀ q : Nat, s.heap.size ≤ q → A q := fun q h => by rw [← hAe]; exact h
  have hS : va_S A s.heap s.heap [] := va_S.rf
  have hP : va_P (dC, dI) cls [(h0, .inr (10, [.ref r0, .ref d0, .ref g0, .ref g1, .ref y1, .ref s1, .ref l1, .ref w1])), (r0, .inr (7, [.ref a1, .ref a2, .ref a3, .ref a4, .ref a5, .ref a6, .ref a7, .int 0])), (d0, .inr (2, [.ref b1, .ref b2, .ref b3, .int 0, .int (-1), .int (-1)])), (g0, .inr (4, [.ref f0, .ref n0, .ref y0, .int 0, .int 0, .int 0, .int 45])), (f0, .inr (3, [.ref r0, .ref d0, .ref z1, .ref z2, .ref z3, .ref z4, .ref z5, .int 0, .int 0]))] s.heap := hP
  have hl := lv_entry ([.ref h0, .int p1, .int p2]) (n := 3) (Nat.le_of_ble_eq_true rfl)
  rw [lg_entry_eq]
  generalize (lg_sl ([.ref h0, .int p1, .int p2]) ++ List.replicate (3 - (lg_sl ([.ref h0, .int p1, .int p2])).length) Slot.unset).toArray = ls at hl ⊢
  have hl : lv_has ls 3 [(0, .ref h0), (1, .int p1), (2, .int p2)] := hl
  refine lv_aload_n hx hb dX10_changed_0 rfl (lv_at hl 0 rfl) ?_
  refine lv_iload_n hx hb dX10_changed_1 rfl (lv_at hl 1 rfl) ?_
  refine lv_iload_n hx hb dX10_changed_2 rfl (lv_at hl 2 rfl) ?_
  have hPc := hP.sub (ws' := [(h0, .inr (10, [.ref r0, .ref d0, .ref g0, .ref g1, .ref y1, .ref s1, .ref l1, .ref w1])), (d0, .inr (2, [.ref b1, .ref b2, .ref b3, .int 0, .int (-1), .int (-1)]))]) [0, 2] rfl
  have hKc := hK.sub (tys' := []) [] rfl
  refine vx_callv (vx_runV (As := [.int p1, .int p2]) (rest := []) ⟨hx, hb, hml, hown, hq⟩ (c_requireTwoSeats l hst tE adK adV dC dI h0 r0 d0 g0 g1 y1 s1 l1 w1 b1 b2 b3 p1 p2 s.heap.size) (tcV 2 hq q_862 q_1 q_859 q_861 qp_13 rfl rfl (by decide +kernel) ⟨Nat.le_of_ble_eq_true rfl, Nat.le_of_ble_eq_true rfl⟩) (preR.V (va_recv hK hP (ci := 10) (q0 := 0) rfl rfl) (preR.of hPc hKc ham hS hA)) rfl rfl hl.1 rfl (lv_room (Nat.le_of_ble_eq_true rfl)) dX10_changed_3 ⟨Nat.le_of_ble_eq_true rfl, Nat.le_of_ble_eq_true rfl⟩) hS (fun q _ h => hA q (Nat.le_trans hS.1 h)) (fun q h => hA q (Nat.le_trans hS.1 h)) (fun q _ h => hA q (Nat.le_trans hS.1 h)) (fun E ce q9 u t H1 locs ht hvm hpx hB hz1 hk1 hS hce hcv hcl => ?_) (fun u t H1 locs ht hvm hw hB hz1 hk1 hS => ?_)
  · have hE : E = "java/lang/IndexOutOfBoundsException" := hB
    exact vx_out (fun x9 h9 => (hte x9 h9).elim) hlocks hce hcv hcl (vx_thru hE hS) hS.2.2 (Nat.le_of_ble_eq_true rfl) (Nat.le_of_ble_eq_true rfl)
  · exact (hw : False).elim
abbrev cX10_alive : ByteArray := prog_1_method_36_code
def yX10_alive : MethodName := ⟨RX10, "alive", "(II)I"⟩
theorem dX10_alive_0 : decode cX10_alive 0 = .ok (.aload_n 0, 1) := by decide +kernel
theorem dX10_alive_1 : decode cX10_alive 1 = .ok (.iload_n 1, 1) := by decide +kernel
theorem dX10_alive_2 : decode cX10_alive 2 = .ok (.iload_n 2, 1) := by decide +kernel
theorem dX10_alive_3 : decode cX10_alive 3 = .ok (.invokevirtual 119, 3) := by decide +kernel
set_option maxHeartbeats 4000000 in
set_option maxRecDepth 100000 in
theorem c_X_alive (l : Launch) (hst : l.stackTraces = false) (tE : Nat) (adK adV : Nat → Nat) (dC : Nat → ClassId) (dI : Nat → Nat → Nat) (h0 : Nat) (r0 : Nat) (d0 : Nat) (g0 : Nat) (g1 : Nat) (y1 : Nat) (s1 : Nat) (l1 : Nat) (w1 : Nat) (a1 : Nat) (a2 : Nat) (a3 : Nat) (a4 : Nat) (a5 : Nat) (a6 : Nat) (a7 : Nat) (b1 : Nat) (b2 : Nat) (b3 : Nat) (f0 : Nat) (n0 : Nat) (y0 : Nat) (z1 : Nat) (z2 : Nat) (z3 : Nat) (z4 : Nat) (z5 : Nat) (p1 : Int32) (p2 : Int32) (sz : Nat) : vx_Met l yX10_alive (Cond.code yX10_alive cX10_alive 3 (some .int) :: tw) ({ frames := 8, cells := 1, slots := 6, locals := 125 }) (va_Pc [.ref h0, .int p1, .int p2] (preR tE adK adV (dC, dI) [(h0, .inr (10, [.ref r0, .ref d0, .ref g0, .ref g1, .ref y1, .ref s1, .ref l1, .ref w1])), (r0, .inr (7, [.ref a1, .ref a2, .ref a3, .ref a4, .ref a5, .ref a6, .ref a7, .int 0])), (d0, .inr (2, [.ref b1, .ref b2, .ref b3, .int 0, .int (-1), .int (-1)])), (g0, .inr (4, [.ref f0, .ref n0, .ref y0, .int 0, .int 0, .int 0, .int 45])), (f0, .inr (3, [.ref r0, .ref d0, .ref z1, .ref z2, .ref z3, .ref z4, .ref z5, .int 0, .int 0]))] [] sz)) (va_Qi (fun (r : Int32) (_ : Unit) => False) (fun (_ : Unit) (_ : State) => True) (fun q : Nat => sz ≤ q)) (vx_X (fun _ : Unit => True) (fun E (_ : Unit) (_ : State) => E = "java/lang/IndexOutOfBoundsException") (fun q : Nat => sz ≤ q)) 1 6 (fun q : Nat => sz ≤ q) := by
  refine vx_ofW (cc := cX10_alive) (maxL := 3) (ret := (some .int)) (by decide) rfl ?_
  intro p e s m args below meth c s₁ B hml hte hv
  obtain ⟨rfl, hsz, hP, hK, ham⟩ := hv
  have hx := B.exec
  have hb := B.bytes
  have hr := B.returns
  have hts := atoms_spec B.pre
  have hq : ∀ w ∈ tw, w.before _ s = true := fun w h => hts w (List.mem_cons_of_mem _ h)
  have hown : s.vm.findClass RX10 = some m.cls := findClass_of_methodNamed B.named
  have hlocks := B.notSynchronized
  subst hsz
  generalize hAe : (fun q : Nat => s.heap.size ≤ q) = A at ham ⊢
  have hA : ∀ q : Nat, s.heap.size ≤ q → A q := fun q h => by rw [← hAe]; exact h
  have hS : va_S A s.heap s.heap [] := va_S.rf
  have hP : va_P (dC, dI) cls [(h0, .inr (10, [.ref r0, .ref d0, .ref g0, .ref g1, .ref y1, .ref s1, .ref l1, .ref w1])), (r0, .inr (7, [.ref a1, .ref a2, .ref a3, .ref a4, .ref a5, .ref a6, .ref a7, .int 0])), (d0, .inr (2, [.ref b1, .ref b2, .ref b3, .int 0, .int (-1), .int (-1)])), (g0, .inr (4, [.ref f0, .ref n0, .ref y0, .int 0, .int 0, .int 0, .int 45])), (f0, .inr (3, [.ref r0, .ref d0, .ref z1, .ref z2, .ref z3, .ref z4, .ref z5, .int 0, .int 0]))] s.heap := hP
  have hl := lv_entry ([.ref h0, .int p1, .int p2]) (n := 3) (Nat.le_of_ble_eq_true rfl)
  rw [lg_entry_eq]
  generalize (lg_sl ([.ref h0, .int p1, .int p2]) ++ List.replicate (3 - (lg_sl ([.ref h0, .int p1, .int p2])).length) Slot.unset).toArray = ls at hl ⊢
  have hl : lv_has ls 3 [(0, .ref h0), (1, .int p1), (2, .int p2)] := hl
  refine lv_aload_n hx hb dX10_alive_0 rfl (lv_at hl 0 rfl) ?_
  refine lv_iload_n hx hb dX10_alive_1 rfl (lv_at hl 1 rfl) ?_
  refine lv_iload_n hx hb dX10_alive_2 rfl (lv_at hl 2 rfl) ?_
  have hPc := hP.sub (ws' := [(h0, .inr (10, [.ref r0, .ref d0, .ref g0, .ref g1, .ref y1, .ref s1, .ref l1, .ref w1])), (d0, .inr (2, [.ref b1, .ref b2, .ref b3, .int 0, .int (-1), .int (-1)]))]) [0, 2] rfl
  have hKc := hK.sub (tys' := []) [] rfl
  refine vx_callv (vx_runV (As := [.int p1, .int p2]) (rest := []) ⟨hx, hb, hml, hown, hq⟩ (c_requireTwoSeats l hst tE adK adV dC dI h0 r0 d0 g0 g1 y1 s1 l1 w1 b1 b2 b3 p1 p2 s.heap.size) (tcV 2 hq q_862 q_1 q_859 q_861 qp_13 rfl rfl (by decide +kernel) ⟨Nat.le_of_ble_eq_true rfl, Nat.le_of_ble_eq_true rfl⟩) (preR.V (va_recv hK hP (ci := 10) (q0 := 0) rfl rfl) (preR.of hPc hKc ham hS hA)) rfl rfl hl.1 rfl (lv_room (Nat.le_of_ble_eq_true rfl)) dX10_alive_3 ⟨Nat.le_of_ble_eq_true rfl, Nat.le_of_ble_eq_true rfl⟩) hS (fun q _ h => hA q (Nat.le_trans hS.1 h)) (fun q h => hA q (Nat.le_trans hS.1 h)) (fun q _ h => hA q (Nat.le_trans hS.1 h)) (fun E ce q9 u t H1 locs ht hvm hpx hB hz1 hk1 hS hce hcv hcl => ?_) (fun u t H1 locs ht hvm hw hB hz1 hk1 hS => ?_)
  · have hE : E = "java/lang/IndexOutOfBoundsException" := hB
    exact vx_out (fun x9 h9 => (hte x9 h9).elim) hlocks hce hcv hcl (vx_thru hE hS) hS.2.2 (Nat.le_of_ble_eq_true rfl) (Nat.le_of_ble_eq_true rfl)
  · exact (hw : False).elim
abbrev cX10_livingShare : ByteArray := prog_1_method_38_code
def yX10_livingShare : MethodName := ⟨RX10, "livingShare", "()F"⟩
theorem dX10_livingShare_0 : decode cX10_livingShare 0 = .ok (.aload_n 0, 1) := by decide +kernel
theorem dX10_livingShare_1 : decode cX10_livingShare 1 = .ok (.getfield 19, 3) := by decide +kernel
theorem dX10_livingShare_4 : decode cX10_livingShare 4 = .ok (.getfield 107, 3) := by decide +kernel
theorem dX10_livingShare_7 : decode cX10_livingShare 7 = .ok (.ifCond .ne 14, 3) := by decide +kernel
theorem dX10_livingShare_10 : decode cX10_livingShare 10 = .ok (.new 200, 3) := by decide +kernel
theorem atn_204_200 : ∀ w ∈ nx_at RX10 204 "java/util/NoSuchElementException" 13 prog_46_method_4_code "java/lang/RuntimeException" ["java/lang/Exception"], w ∈ tw := fun w hw => thr_in (List.all_eq_true.mp (show (nx_at RX10 204 "java/util/NoSuchElementException" 13 prog_46_method_4_code "java/lang/RuntimeException" ["java/lang/Exception"]).all (fun w => decide (w ∈ thr_all)) = true by decide +kernel) w hw)
theorem atn_204_200_g : ∀ w ∈ Cond.classLink RX10 200 "java/util/NoSuchElementException" :: Cond.initialized "java/util/NoSuchElementException" :: nx_at RX10 204 "java/util/NoSuchElementException" 13 prog_46_method_4_code "java/lang/RuntimeException" ["java/lang/Exception"], vx_ot w = true := fun w hw => List.all_eq_true.mp (show (Cond.classLink RX10 200 "java/util/NoSuchElementException" :: Cond.initialized "java/util/NoSuchElementException" :: nx_at RX10 204 "java/util/NoSuchElementException" 13 prog_46_method_4_code "java/lang/RuntimeException" ["java/lang/Exception"]).all vx_ot = true by decide +kernel) w hw
theorem sr_1253 : Cond.stringRef "NightfallVillage" 322 "there are no seats" ∈ tables_1 := List.mem_of_getElem? (i := 1253) (by decide +kernel)
theorem q_962 : (Cond.classLink "NightfallVillage" 200 "java/util/NoSuchElementException") ∈ tw := tw_in (i := 962) (by decide +kernel) (by decide +kernel)
theorem q_38 : (Cond.initialized "java/util/NoSuchElementException") ∈ tw := tw_in (i := 38) (by decide +kernel) (by decide +kernel)
theorem dX10_livingShare_13 : decode cX10_livingShare 13 = .ok (.dup, 1) := by decide +kernel
theorem dX10_livingShare_14 : decode cX10_livingShare 14 = .ok (.ldc_w 322, 3) := by decide +kernel
theorem dX10_livingShare_17 : decode cX10_livingShare 17 = .ok (.invokespecial 204, 3) := by decide +kernel
theorem dX10_livingShare_20 : decode cX10_livingShare 20 = .ok (.athrow, 1) := by decide +kernel
set_option maxHeartbeats 4000000 in
set_option maxRecDepth 100000 in
theorem c_X_livingShare (l : Launch) (hst : l.stackTraces = false) (tE : Nat) (adK adV : Nat → Nat) (dC : Nat → ClassId) (dI : Nat → Nat → Nat) (h0 : Nat) (r0 : Nat) (d0 : Nat) (g0 : Nat) (g1 : Nat) (y1 : Nat) (s1 : Nat) (l1 : Nat) (w1 : Nat) (a1 : Nat) (a2 : Nat) (a3 : Nat) (a4 : Nat) (a5 : Nat) (a6 : Nat) (a7 : Nat) (b1 : Nat) (b2 : Nat) (b3 : Nat) (f0 : Nat) (n0 : Nat) (y0 : Nat) (z1 : Nat) (z2 : Nat) (z3 : Nat) (z4 : Nat) (z5 : Nat) (sz : Nat) : vx_Met l yX10_livingShare (Cond.code yX10_livingShare cX10_livingShare 1 (some .float) :: tw) ({ frames := 6, cells := 1, slots := 6, locals := 82 }) (va_Pc [.ref h0] (preR tE adK adV (dC, dI) [(h0, .inr (10, [.ref r0, .ref d0, .ref g0, .ref g1, .ref y1, .ref s1, .ref l1, .ref w1])), (r0, .inr (7, [.ref a1, .ref a2, .ref a3, .ref a4, .ref a5, .ref a6, .ref a7, .int 0])), (d0, .inr (2, [.ref b1, .ref b2, .ref b3, .int 0, .int (-1), .int (-1)])), (g0, .inr (4, [.ref f0, .ref n0, .ref y0, .int 0, .int 0, .int 0, .int 45])), (f0, .inr (3, [.ref r0, .ref d0, .ref z1, .ref z2, .ref z3, .ref z4, .ref z5, .int 0, .int 0]))] [] sz)) (va_Qf (fun (r : UInt32) (_ : Unit) => False) (fun (_ : Unit) (_ : State) => True) (fun q : Nat => sz ≤ q)) (vx_X (fun _ : Unit => True) (fun E (_ : Unit) (_ : State) => E = "java/util/NoSuchElementException") (fun q : Nat => sz ≤ q)) 1 6 (fun q : Nat => sz ≤ q) := by
  refine vx_ofW (cc := cX10_livingShare) (maxL := 1) (ret := (some .float)) (by decide) rfl ?_
  intro p e s m args below meth c s₁ B hml hte hv
  obtain ⟨rfl, hsz, hP, hK, ham⟩ := hv
  have hx := B.exec
  have hb := B.bytes
  have hr := B.returns
  have hts := atoms_spec B.pre
  have hq : ∀ w ∈ tw, w.before _ s = true := fun w h => hts w (List.mem_cons_of_mem _ h)
  have hown : s.vm.findClass RX10 = some m.cls := findClass_of_methodNamed B.named
  have hlocks := B.notSynchronized
  subst hsz
  generalize hAe : (fun q : Nat => s.heap.size ≤ q) = A at ham ⊢
  have hA : ∀ q : Nat, s.heap.size ≤ q → A q := fun q h => by rw [← hAe]; exact h
  have hS : va_S A s.heap s.heap [] := va_S.rf
  have hP : va_P (dC, dI) cls [(h0, .inr (10, [.ref r0, .ref d0, .ref g0, .ref g1, .ref y1, .ref s1, .ref l1, .ref w1])), (r0, .inr (7, [.ref a1, .ref a2, .ref a3, .ref a4, .ref a5, .ref a6, .ref a7, .int 0])), (d0, .inr (2, [.ref b1, .ref b2, .ref b3, .int 0, .int (-1), .int (-1)])), (g0, .inr (4, [.ref f0, .ref n0, .ref y0, .int 0, .int 0, .int 0, .int 45])), (f0, .inr (3, [.ref r0, .ref d0, .ref z1, .ref z2, .ref z3, .ref z4, .ref z5, .int 0, .int 0]))] s.heap := hP
  have hl := lv_entry ([.ref h0]) (n := 1) (Nat.le_of_ble_eq_true rfl)
  rw [lg_entry_eq]
  generalize (lg_sl ([.ref h0]) ++ List.replicate (1 - (lg_sl ([.ref h0])).length) Slot.unset).toArray = ls at hl ⊢
  have hl : lv_has ls 1 [(0, .ref h0)] := hl
  refine lv_aload_n hx hb dX10_livingShare_0 rfl (lv_at hl 0 rfl) ?_
  refine va_get (D := (dC, dI)) (ci := 10) (v := .ref d0) (C := RX10) (T := TX10) (N := 8) hx hb hq i_X10 hown hK hP 0 rfl rfl 1 (by decide) (hq _ q_327) (fun _ h9 => h9) rfl dX10_livingShare_1 ?_
  refine va_getN (D := (dC, dI)) (host := "NightfallVillage") (ci := 2) (v := .int 0) (C := RX2) (T := TX2) (N := 6) hx hb hq i_X2 hown hK hP 2 rfl rfl 3 (by decide) (hq _ q_94) (fun _ h9 => h9) rfl dX10_livingShare_4 ?_
  refine lv_if_ne (tgt := 21) hx hb dX10_livingShare_7 (by decide) (fun c_1 => ?_) (fun c_1 => ?_)
  · exact absurd c_1 (by decide)
  · obtain ⟨sa_2, hsa_2⟩ := ham.2.1 _ _ _ sr_1253
    exact nx_throwSW hx hb hst (own := RX10) (cls := "java/util/NoSuchElementException") (Y0 := "java/lang/RuntimeException") (r := ["java/lang/Exception"]) (ix := 13) (rx := prog_46_method_4_code) (by decide +kernel) (by decide +kernel) (by decide +kernel) (by decide +kernel) hown (by decide) (by decide) (by decide) (hq _ q_962) (hq _ q_38) hsa_2 (fun w9 h9 => hq _ (atn_204_200 w9 h9)) atn_204_200_g ham.1.1 ham.1.2 hS (hl.1.trans hml.symm) dX10_livingShare_10 dX10_livingShare_13 dX10_livingShare_14 dX10_livingShare_17 dX10_livingShare_20 (fun x9 h9 => (hte x9 h9).elim) (Nat.le_of_ble_eq_true rfl) (Nat.le_of_ble_eq_true rfl) (Nat.le_of_ble_eq_true rfl) (Nat.le_of_ble_eq_true rfl) hlocks (vx_end hS) hS.2.2 (Nat.le_of_ble_eq_true rfl) (Nat.le_of_ble_eq_true rfl)
abbrev cX10_meanWorlds : ByteArray := prog_1_method_39_code
def yX10_meanWorlds : MethodName := ⟨RX10, "meanWorlds", "()D"⟩
theorem dX10_meanWorlds_0 : decode cX10_meanWorlds 0 = .ok (.aload_n 0, 1) := by decide +kernel
theorem dX10_meanWorlds_1 : decode cX10_meanWorlds 1 = .ok (.getfield 28, 3) := by decide +kernel
theorem dX10_meanWorlds_4 : decode cX10_meanWorlds 4 = .ok (.getfield 139, 3) := by decide +kernel
theorem dX10_meanWorlds_7 : decode cX10_meanWorlds 7 = .ok (.ifCond .eq 13, 3) := by decide +kernel
theorem dX10_meanWorlds_20 : decode cX10_meanWorlds 20 = .ok (.new 90, 3) := by decide +kernel
theorem dX10_meanWorlds_23 : decode cX10_meanWorlds 23 = .ok (.dup, 1) := by decide +kernel
theorem dX10_meanWorlds_24 : decode cX10_meanWorlds 24 = .ok (.ldc_w 324, 3) := by decide +kernel
theorem dX10_meanWorlds_27 : decode cX10_meanWorlds 27 = .ok (.invokespecial 94, 3) := by decide +kernel
theorem dX10_meanWorlds_30 : decode cX10_meanWorlds 30 = .ok (.athrow, 1) := by decide +kernel
set_option maxHeartbeats 4000000 in
set_option maxRecDepth 100000 in
theorem c_X_meanWorlds (l : Launch) (hst : l.stackTraces = false) (tE : Nat) (adK adV : Nat → Nat) (dC : Nat → ClassId) (dI : Nat → Nat → Nat) (h0 : Nat) (r0 : Nat) (d0 : Nat) (g0 : Nat) (g1 : Nat) (y1 : Nat) (s1 : Nat) (l1 : Nat) (w1 : Nat) (a1 : Nat) (a2 : Nat) (a3 : Nat) (a4 : Nat) (a5 : Nat) (a6 : Nat) (a7 : Nat) (b1 : Nat) (b2 : Nat) (b3 : Nat) (f0 : Nat) (n0 : Nat) (y0 : Nat) (z1 : Nat) (z2 : Nat) (z3 : Nat) (z4 : Nat) (z5 : Nat) (sz : Nat) : vx_Met l yX10_meanWorlds (Cond.code yX10_meanWorlds cX10_meanWorlds 3 (some .double) :: tw) ({ frames := 6, cells := 1, slots := 6, locals := 82 }) (va_Pc [.ref h0] (preR tE adK adV (dC, dI) [(h0, .inr (10, [.ref r0, .ref d0, .ref g0, .ref g1, .ref y1, .ref s1, .ref l1, .ref w1])), (r0, .inr (7, [.ref a1, .ref a2, .ref a3, .ref a4, .ref a5, .ref a6, .ref a7, .int 0])), (d0, .inr (2, [.ref b1, .ref b2, .ref b3, .int 0, .int (-1), .int (-1)])), (g0, .inr (4, [.ref f0, .ref n0, .ref y0, .int 0, .int 0, .int 0, .int 45])), (f0, .inr (3, [.ref r0, .ref d0, .ref z1, .ref z2, .ref z3, .ref z4, .ref z5, .int 0, .int 0]))] [] sz)) (va_Qd (fun (r : UInt64) (_ : Unit) => False) (fun (_ : Unit) (_ : State) => True) (fun q : Nat => sz ≤ q)) (vx_X (fun _ : Unit => True) (fun E (_ : Unit) (_ : State) => E = "java/lang/IllegalStateException") (fun q : Nat => sz ≤ q)) 1 6 (fun q : Nat => sz ≤ q) := by
  refine vx_ofW (cc := cX10_meanWorlds) (maxL := 3) (ret := (some .double)) (by decide) rfl ?_
  intro p e s m args below meth c s₁ B hml hte hv
  obtain ⟨rfl, hsz, hP, hK, ham⟩ := hv
  have hx := B.exec
  have hb := B.bytes
  have hr := B.returns
  have hts := atoms_spec B.pre
  have hq : ∀ w ∈ tw, w.before _ s = true := fun w h => hts w (List.mem_cons_of_mem _ h)
  have hown : s.vm.findClass RX10 = some m.cls := findClass_of_methodNamed B.named
  have hlocks := B.notSynchronized
  subst hsz
  generalize hAe : (fun q : Nat => s.heap.size ≤ q) = A at ham ⊢
  have hA : ∀ q : Nat, s.heap.size ≤ q → A q := fun q h => by rw [← hAe]; exact h
  have hS : va_S A s.heap s.heap [] := va_S.rf
  have hP : va_P (dC, dI) cls [(h0, .inr (10, [.ref r0, .ref d0, .ref g0, .ref g1, .ref y1, .ref s1, .ref l1, .ref w1])), (r0, .inr (7, [.ref a1, .ref a2, .ref a3, .ref a4, .ref a5, .ref a6, .ref a7, .int 0])), (d0, .inr (2, [.ref b1, .ref b2, .ref b3, .int 0, .int (-1), .int (-1)])), (g0, .inr (4, [.ref f0, .ref n0, .ref y0, .int 0, .int 0, .int 0, .int 45])), (f0, .inr (3, [.ref r0, .ref d0, .ref z1, .ref z2, .ref z3, .ref z4, .ref z5, .int 0, .int 0]))] s.heap := hP
  have hl := lv_entry ([.ref h0]) (n := 3) (Nat.le_of_ble_eq_true rfl)
  rw [lg_entry_eq]
  generalize (lg_sl ([.ref h0]) ++ List.replicate (3 - (lg_sl ([.ref h0])).length) Slot.unset).toArray = ls at hl ⊢
  have hl : lv_has ls 3 [(0, .ref h0)] := hl
  refine lv_aload_n hx hb dX10_meanWorlds_0 rfl (lv_at hl 0 rfl) ?_
  refine va_get (D := (dC, dI)) (ci := 10) (v := .ref g0) (C := RX10) (T := TX10) (N := 8) hx hb hq i_X10 hown hK hP 0 rfl rfl 2 (by decide) (hq _ q_328) (fun _ h9 => h9) rfl dX10_meanWorlds_1 ?_
  refine va_getN (D := (dC, dI)) (host := "NightfallVillage") (ci := 4) (v := .int 0) (C := RX4) (T := TX4) (N := 7) hx hb hq i_X4 hown hK hP 3 rfl rfl 3 (by decide) (hq _ q_215) (fun _ h9 => h9) rfl dX10_meanWorlds_4 ?_
  refine lv_if_eq (tgt := 20) hx hb dX10_meanWorlds_7 (by decide) (fun c_1 => ?_) (fun c_1 => ?_)
  · obtain ⟨sa_2, hsa_2⟩ := ham.2.1 _ _ _ sr_1064
    exact vx_throwSW hx hb hst (own := RX10) (cls := "java/lang/IllegalStateException") (names := ["java/lang/RuntimeException", "java/lang/Exception"]) hown (by decide) (by decide) (hq _ q_786) (hq _ q_22) hsa_2 (fun w9 h9 => hq _ (at_X10_IllegalStateException_94_90 w9 h9)) at_X10_IllegalStateException_94_90_g ham.1.1 ham.1.2 hS (hl.1.trans hml.symm) dX10_meanWorlds_20 dX10_meanWorlds_23 dX10_meanWorlds_24 dX10_meanWorlds_27 dX10_meanWorlds_30 (fun x9 h9 => (hte x9 h9).elim) (Nat.le_of_ble_eq_true rfl) (Nat.le_of_ble_eq_true rfl) (Nat.le_of_ble_eq_true rfl) (Nat.le_of_ble_eq_true rfl) hlocks (vx_end hS) hS.2.2 (Nat.le_of_ble_eq_true rfl) (Nat.le_of_ble_eq_true rfl)
  · exact absurd c_1 (by decide)
abbrev cX10_winner : ByteArray := prog_1_method_26_code
def yX10_winner : MethodName := ⟨RX10, "winner", "()C"⟩
theorem dX10_winner_0 : decode cX10_winner 0 = .ok (.aload_n 0, 1) := by decide +kernel
theorem dX10_winner_1 : decode cX10_winner 1 = .ok (.getfield 28, 3) := by decide +kernel
theorem dX10_winner_4 : decode cX10_winner 4 = .ok (.getfield 277, 3) := by decide +kernel
theorem q_221 : (Cond.fieldLinkNest "NightfallVillage" 277 "NightfallVillage$Game" "outcome" "C" "NightfallVillage") ∈ tw := tw_in (i := 221) (by decide +kernel) (by decide +kernel)
theorem dX10_winner_7 : decode cX10_winner 7 = .ok (.ireturn, 1) := by decide +kernel
set_option maxHeartbeats 4000000 in
set_option maxRecDepth 100000 in
theorem c_X_winner (l : Launch) (hst : l.stackTraces = false) (tE : Nat) (adK adV : Nat → Nat) (dC : Nat → ClassId) (dI : Nat → Nat → Nat) (h0 : Nat) (r0 : Nat) (d0 : Nat) (g0 : Nat) (g1 : Nat) (y1 : Nat) (s1 : Nat) (l1 : Nat) (w1 : Nat) (a1 : Nat) (a2 : Nat) (a3 : Nat) (a4 : Nat) (a5 : Nat) (a6 : Nat) (a7 : Nat) (b1 : Nat) (b2 : Nat) (b3 : Nat) (f0 : Nat) (n0 : Nat) (y0 : Nat) (z1 : Nat) (z2 : Nat) (z3 : Nat) (z4 : Nat) (z5 : Nat) (sz : Nat) : Met l yX10_winner (Cond.code yX10_winner cX10_winner 1 (some .char) :: tw) ({ frames := 0, cells := 0, slots := 0, locals := 0 }) (va_Pc [.ref h0] (preR tE adK adV (dC, dI) [(h0, .inr (10, [.ref r0, .ref d0, .ref g0, .ref g1, .ref y1, .ref s1, .ref l1, .ref w1])), (r0, .inr (7, [.ref a1, .ref a2, .ref a3, .ref a4, .ref a5, .ref a6, .ref a7, .int 0])), (d0, .inr (2, [.ref b1, .ref b2, .ref b3, .int 0, .int (-1), .int (-1)])), (g0, .inr (4, [.ref f0, .ref n0, .ref y0, .int 0, .int 0, .int 0, .int 45])), (f0, .inr (3, [.ref r0, .ref d0, .ref z1, .ref z2, .ref z3, .ref z4, .ref z5, .int 0, .int 0]))] [] sz)) (va_Qi (fun (r : Int32) (_ : Unit) => r = 45) (fun (_ : Unit) (_ : State) => True) (fun q : Nat => sz ≤ q)) 0 0 (fun q : Nat => sz ≤ q) := by
  refine Met.ofW (cc := cX10_winner) (maxL := 1) (ret := (some .char)) (by decide) rfl ?_
  intro p e s m args below meth c s₁ B hml hv
  obtain ⟨rfl, hsz, hP, hK, ham⟩ := hv
  have hx := B.exec
  have hb := B.bytes
  have hr := B.returns
  have hts := atoms_spec B.pre
  have hq : ∀ w ∈ tw, w.before _ s = true := fun w h => hts w (List.mem_cons_of_mem _ h)
  have hown : s.vm.findClass RX10 = some m.cls := findClass_of_methodNamed B.named
  have hlocks := B.notSynchronized
  subst hsz
  generalize hAe : (fun q : Nat => s.heap.size ≤ q) = A at ham ⊢
  have hA : ∀ q : Nat, s.heap.size ≤ q → A q := fun q h => by rw [← hAe]; exact h
  have hS : va_S A s.heap s.heap [] := va_S.rf
  have hP : va_P (dC, dI) cls [(h0, .inr (10, [.ref r0, .ref d0, .ref g0, .ref g1, .ref y1, .ref s1, .ref l1, .ref w1])), (r0, .inr (7, [.ref a1, .ref a2, .ref a3, .ref a4, .ref a5, .ref a6, .ref a7, .int 0])), (d0, .inr (2, [.ref b1, .ref b2, .ref b3, .int 0, .int (-1), .int (-1)])), (g0, .inr (4, [.ref f0, .ref n0, .ref y0, .int 0, .int 0, .int 0, .int 45])), (f0, .inr (3, [.ref r0, .ref d0, .ref z1, .ref z2, .ref z3, .ref z4, .ref z5, .int 0, .int 0]))] s.heap := hP
  have hl := lv_entry ([.ref h0]) (n := 1) (Nat.le_of_ble_eq_true rfl)
  rw [lg_entry_eq]
  generalize (lg_sl ([.ref h0]) ++ List.replicate (1 - (lg_sl ([.ref h0])).length) Slot.unset).toArray = ls at hl ⊢
  have hl : lv_has ls 1 [(0, .ref h0)] := hl
  refine lv_aload_n hx hb dX10_winner_0 rfl (lv_at hl 0 rfl) ?_
  refine va_get (D := (dC, dI)) (ci := 10) (v := .ref g0) (C := RX10) (T := TX10) (N := 8) hx hb hq i_X10 hown hK hP 0 rfl rfl 2 (by decide) (hq _ q_328) (fun _ h9 => h9) rfl dX10_winner_1 ?_
  refine va_getN (D := (dC, dI)) (host := "NightfallVillage") (ci := 4) (v := .int 45) (C := RX4) (T := TX4) (N := 7) hx hb hq i_X4 hown hK hP 3 rfl rfl 6 (by decide) (hq _ q_221) (fun _ h9 => h9) rfl dX10_winner_4 ?_
  refine W.widen (k := 0) (n := 0) (Nat.le_of_ble_eq_true rfl) (Nat.le_of_ble_eq_true rfl) ?_
  exact W.zret (v := 45) hx hb hr (by decide) (fun t ht hW => ⟨⟨45, (), rfl, rfl, trivial⟩, hS.F ht⟩) hS.2.2 dX10_winner_7
abbrev cX10_checksum : ByteArray := prog_1_method_37_code
def yX10_checksum : MethodName := ⟨RX10, "checksum", "()J"⟩
theorem dX10_checksum_0 : decode cX10_checksum 0 = .ok (.ldc2_w 318, 3) := by decide +kernel
theorem q_359 : (Cond.constantLong "NightfallVillage" 318 7) ∈ tw := tw_in (i := 359) (by decide +kernel) (by decide +kernel)
theorem dX10_checksum_3 : decode cX10_checksum 3 = .ok (.lstore_n 1, 1) := by decide +kernel
theorem dX10_checksum_4 : decode cX10_checksum 4 = .ok (.iconst 0, 1) := by decide +kernel
theorem dX10_checksum_5 : decode cX10_checksum 5 = .ok (.istore_n 3, 1) := by decide +kernel
theorem dX10_checksum_6 : decode cX10_checksum 6 = .ok (.iload_n 3, 1) := by decide +kernel
theorem dX10_checksum_7 : decode cX10_checksum 7 = .ok (.aload_n 0, 1) := by decide +kernel
theorem dX10_checksum_8 : decode cX10_checksum 8 = .ok (.getfield 19, 3) := by decide +kernel
theorem dX10_checksum_11 : decode cX10_checksum 11 = .ok (.getfield 107, 3) := by decide +kernel
theorem dX10_checksum_14 : decode cX10_checksum 14 = .ok (.if_icmp .ge 44, 3) := by decide +kernel
theorem dX10_checksum_58 : decode cX10_checksum 58 = .ok (.lload_n 1, 1) := by decide +kernel
theorem dX10_checksum_59 : decode cX10_checksum 59 = .ok (.lreturn, 1) := by decide +kernel
set_option maxHeartbeats 4000000 in
set_option maxRecDepth 100000 in
theorem c_X_checksum (l : Launch) (hst : l.stackTraces = false) (tE : Nat) (adK adV : Nat → Nat) (dC : Nat → ClassId) (dI : Nat → Nat → Nat) (h0 : Nat) (r0 : Nat) (d0 : Nat) (g0 : Nat) (g1 : Nat) (y1 : Nat) (s1 : Nat) (l1 : Nat) (w1 : Nat) (a1 : Nat) (a2 : Nat) (a3 : Nat) (a4 : Nat) (a5 : Nat) (a6 : Nat) (a7 : Nat) (b1 : Nat) (b2 : Nat) (b3 : Nat) (f0 : Nat) (n0 : Nat) (y0 : Nat) (z1 : Nat) (z2 : Nat) (z3 : Nat) (z4 : Nat) (z5 : Nat) (sz : Nat) : Met l yX10_checksum (Cond.code yX10_checksum cX10_checksum 4 (some .long) :: tw) ({ frames := 0, cells := 0, slots := 0, locals := 0 }) (va_Pc [.ref h0] (preR tE adK adV (dC, dI) [(h0, .inr (10, [.ref r0, .ref d0, .ref g0, .ref g1, .ref y1, .ref s1, .ref l1, .ref w1])), (r0, .inr (7, [.ref a1, .ref a2, .ref a3, .ref a4, .ref a5, .ref a6, .ref a7, .int 0])), (d0, .inr (2, [.ref b1, .ref b2, .ref b3, .int 0, .int (-1), .int (-1)])), (g0, .inr (4, [.ref f0, .ref n0, .ref y0, .int 0, .int 0, .int 0, .int 45])), (f0, .inr (3, [.ref r0, .ref d0, .ref z1, .ref z2, .ref z3, .ref z4, .ref z5, .int 0, .int 0]))] [] sz)) (va_Ql (fun (r : Int64) (_ : Unit) => r = 7) (fun (_ : Unit) (_ : State) => True) (fun q : Nat => sz ≤ q)) 0 0 (fun q : Nat => sz ≤ q) := by
  refine Met.ofW (cc := cX10_checksum) (maxL := 4) (ret := (some .long)) (by decide) rfl ?_
  intro p e s m args below meth c s₁ B hml hv
  obtain ⟨rfl, hsz, hP, hK, ham⟩ := hv
  have hx := B.exec
  have hb := B.bytes
  have hr := B.returns
  have hts := atoms_spec B.pre
  have hq : ∀ w ∈ tw, w.before _ s = true := fun w h => hts w (List.mem_cons_of_mem _ h)
  have hown : s.vm.findClass RX10 = some m.cls := findClass_of_methodNamed B.named
  have hlocks := B.notSynchronized
  subst hsz
  generalize hAe : (fun q : Nat => s.heap.size ≤ q) = A at ham ⊢
  have hA : ∀ q : Nat, s.heap.size ≤ q → A q := fun q h => by rw [← hAe]; exact h
  have hS : va_S A s.heap s.heap [] := va_S.rf
  have hP : va_P (dC, dI) cls [(h0, .inr (10, [.ref r0, .ref d0, .ref g0, .ref g1, .ref y1, .ref s1, .ref l1, .ref w1])), (r0, .inr (7, [.ref a1, .ref a2, .ref a3, .ref a4, .ref a5, .ref a6, .ref a7, .int 0])), (d0, .inr (2, [.ref b1, .ref b2, .ref b3, .int 0, .int (-1), .int (-1)])), (g0, .inr (4, [.ref f0, .ref n0, .ref y0, .int 0, .int 0, .int 0, .int 45])), (f0, .inr (3, [.ref r0, .ref d0, .ref z1, .ref z2, .ref z3, .ref z4, .ref z5, .int 0, .int 0]))] s.heap := hP
  have hl := lv_entry ([.ref h0]) (n := 4) (Nat.le_of_ble_eq_true rfl)
  rw [lg_entry_eq]
  generalize (lg_sl ([.ref h0]) ++ List.replicate (4 - (lg_sl ([.ref h0])).length) Slot.unset).toArray = ls at hl ⊢
  have hl : lv_has ls 4 [(0, .ref h0)] := hl
  refine lv_ldc2 (v := 7) hx hb hown (hq _ q_359) dX10_checksum_0 ?_
  refine lv_lstore_n (lv' := [(1, .long 7), (0, .ref h0)]) hx hb dX10_checksum_3 rfl hl (by decide) rfl (fun ls hl => ?_)
  refine lv_iconst (v := 0) hx hb dX10_checksum_4 (by decide) ?_
  refine lv_istore_n (lv' := [(3, .int 0), (1, .long 7), (0, .ref h0)]) hx hb dX10_checksum_5 rfl hl (by decide) rfl (fun ls hl => ?_)
  refine lv_iload_n hx hb dX10_checksum_6 rfl (lv_at hl 0 rfl) ?_
  refine lv_aload_n hx hb dX10_checksum_7 rfl (lv_at hl 2 rfl) ?_
  refine va_get (D := (dC, dI)) (ci := 10) (v := .ref d0) (C := RX10) (T := TX10) (N := 8) hx hb hq i_X10 hown hK hP 0 rfl rfl 1 (by decide) (hq _ q_327) (fun _ h9 => h9) rfl dX10_checksum_8 ?_
  refine va_getN (D := (dC, dI)) (host := "NightfallVillage") (ci := 2) (v := .int 0) (C := RX2) (T := TX2) (N := 6) hx hb hq i_X2 hown hK hP 2 rfl rfl 3 (by decide) (hq _ q_94) (fun _ h9 => h9) rfl dX10_checksum_11 ?_
  refine lv_icmp_ge (tgt := 58) hx hb dX10_checksum_14 (by decide) (fun c_1 => ?_) (fun c_1 => ?_)
  · refine lv_lload_n hx hb dX10_checksum_58 rfl (lv_at hl 1 rfl) ?_
    refine W.widen (k := 0) (n := 0) (Nat.le_of_ble_eq_true rfl) (Nat.le_of_ble_eq_true rfl) ?_
    exact W.lret (v := 7) hx hb hr (fun t ht hW => ⟨⟨7, (), rfl, rfl, trivial⟩, hS.F ht⟩) hS.2.2 dX10_checksum_59
  · exact absurd c_1 (by decide)
abbrev cX10_isSound : ByteArray := prog_1_method_40_code
def yX10_isSound : MethodName := ⟨RX10, "isSound", "()Z"⟩
theorem dX10_isSound_0 : decode cX10_isSound 0 = .ok (.aload_n 0, 1) := by decide +kernel
theorem dX10_isSound_1 : decode cX10_isSound 1 = .ok (.getfield 28, 3) := by decide +kernel
theorem dX10_isSound_4 : decode cX10_isSound 4 = .ok (.getfield 139, 3) := by decide +kernel
theorem dX10_isSound_7 : decode cX10_isSound 7 = .ok (.ifCond .ne 5, 3) := by decide +kernel
theorem dX10_isSound_10 : decode cX10_isSound 10 = .ok (.iconst 1, 1) := by decide +kernel
theorem dX10_isSound_11 : decode cX10_isSound 11 = .ok (.ireturn, 1) := by decide +kernel
set_option maxHeartbeats 4000000 in
set_option maxRecDepth 100000 in
theorem c_X_isSound (l : Launch) (hst : l.stackTraces = false) (tE : Nat) (adK adV : Nat → Nat) (dC : Nat → ClassId) (dI : Nat → Nat → Nat) (h0 : Nat) (r0 : Nat) (d0 : Nat) (g0 : Nat) (g1 : Nat) (y1 : Nat) (s1 : Nat) (l1 : Nat) (w1 : Nat) (a1 : Nat) (a2 : Nat) (a3 : Nat) (a4 : Nat) (a5 : Nat) (a6 : Nat) (a7 : Nat) (b1 : Nat) (b2 : Nat) (b3 : Nat) (f0 : Nat) (n0 : Nat) (y0 : Nat) (z1 : Nat) (z2 : Nat) (z3 : Nat) (z4 : Nat) (z5 : Nat) (sz : Nat) : Met l yX10_isSound (Cond.code yX10_isSound cX10_isSound 1 (some .boolean) :: tw) ({ frames := 0, cells := 0, slots := 0, locals := 0 }) (va_Pc [.ref h0] (preR tE adK adV (dC, dI) [(h0, .inr (10, [.ref r0, .ref d0, .ref g0, .ref g1, .ref y1, .ref s1, .ref l1, .ref w1])), (r0, .inr (7, [.ref a1, .ref a2, .ref a3, .ref a4, .ref a5, .ref a6, .ref a7, .int 0])), (d0, .inr (2, [.ref b1, .ref b2, .ref b3, .int 0, .int (-1), .int (-1)])), (g0, .inr (4, [.ref f0, .ref n0, .ref y0, .int 0, .int 0, .int 0, .int 45])), (f0, .inr (3, [.ref r0, .ref d0, .ref z1, .ref z2, .ref z3, .ref z4, .ref z5, .int 0, .int 0]))] [] sz)) (va_Qi (fun (r : Int32) (_ : Unit) => r = 1) (fun (_ : Unit) (_ : State) => True) (fun q : Nat => sz ≤ q)) 0 0 (fun q : Nat => sz ≤ q) := by
  refine Met.ofW (cc := cX10_isSound) (maxL := 1) (ret := (some .boolean)) (by decide) rfl ?_
  intro p e s m args below meth c s₁ B hml hv
  obtain ⟨rfl, hsz, hP, hK, ham⟩ := hv
  have hx := B.exec
  have hb := B.bytes
  have hr := B.returns
  have hts := atoms_spec B.pre
  have hq : ∀ w ∈ tw, w.before _ s = true := fun w h => hts w (List.mem_cons_of_mem _ h)
  have hown : s.vm.findClass RX10 = some m.cls := findClass_of_methodNamed B.named
  have hlocks := B.notSynchronized
  subst hsz
  generalize hAe : (fun q : Nat => s.heap.size ≤ q) = A at ham ⊢
  have hA : ∀ q : Nat, s.heap.size ≤ q → A q := fun q h => by rw [← hAe]; exact h
  have hS : va_S A s.heap s.heap [] := va_S.rf
  have hP : va_P (dC, dI) cls [(h0, .inr (10, [.ref r0, .ref d0, .ref g0, .ref g1, .ref y1, .ref s1, .ref l1, .ref w1])), (r0, .inr (7, [.ref a1, .ref a2, .ref a3, .ref a4, .ref a5, .ref a6, .ref a7, .int 0])), (d0, .inr (2, [.ref b1, .ref b2, .ref b3, .int 0, .int (-1), .int (-1)])), (g0, .inr (4, [.ref f0, .ref n0, .ref y0, .int 0, .int 0, .int 0, .int 45])), (f0, .inr (3, [.ref r0, .ref d0, .ref z1, .ref z2, .ref z3, .ref z4, .ref z5, .int 0, .int 0]))] s.heap := hP
  have hl := lv_entry ([.ref h0]) (n := 1) (Nat.le_of_ble_eq_true rfl)
  rw [lg_entry_eq]
  generalize (lg_sl ([.ref h0]) ++ List.replicate (1 - (lg_sl ([.ref h0])).length) Slot.unset).toArray = ls at hl ⊢
  have hl : lv_has ls 1 [(0, .ref h0)] := hl
  refine lv_aload_n hx hb dX10_isSound_0 rfl (lv_at hl 0 rfl) ?_
  refine va_get (D := (dC, dI)) (ci := 10) (v := .ref g0) (C := RX10) (T := TX10) (N := 8) hx hb hq i_X10 hown hK hP 0 rfl rfl 2 (by decide) (hq _ q_328) (fun _ h9 => h9) rfl dX10_isSound_1 ?_
  refine va_getN (D := (dC, dI)) (host := "NightfallVillage") (ci := 4) (v := .int 0) (C := RX4) (T := TX4) (N := 7) hx hb hq i_X4 hown hK hP 3 rfl rfl 3 (by decide) (hq _ q_215) (fun _ h9 => h9) rfl dX10_isSound_4 ?_
  refine lv_if_ne (tgt := 12) hx hb dX10_isSound_7 (by decide) (fun c_1 => ?_) (fun c_1 => ?_)
  · exact absurd c_1 (by decide)
  · refine lv_iconst (v := 1) hx hb dX10_isSound_10 (by decide) ?_
    refine W.widen (k := 0) (n := 0) (Nat.le_of_ble_eq_true rfl) (Nat.le_of_ble_eq_true rfl) ?_
    exact W.zret (v := 1) hx hb hr (by decide) (fun t ht hW => ⟨⟨1, (), rfl, rfl, trivial⟩, hS.F ht⟩) hS.2.2 dX10_isSound_11
