abbrev cX7_add : ByteArray := prog_9_method_3_code
def yX7_add : MethodName := ⟨RX7, "add", "(CCIZZZ)I"⟩
theorem dX7_add_0 : decode cX7_add 0 = .ok (.aload_n 0, 1) := by decide +kernel
theorem dX7_add_1 : decode cX7_add 1 = .ok (.getfield 35, 3) := by decide +kernel
theorem dX7_add_4 : decode cX7_add 4 = .ok (.istore 7, 2) := by decide +kernel
theorem dX7_add_6 : decode cX7_add 6 = .ok (.iload 7, 2) := by decide +kernel
theorem dX7_add_8 : decode cX7_add 8 = .ok (.bipush 8, 2) := by decide +kernel
theorem dX7_add_10 : decode cX7_add 10 = .ok (.if_icmp .lt 5, 3) := by decide +kernel
theorem dX7_add_15 : decode cX7_add 15 = .ok (.aload_n 0, 1) := by decide +kernel
theorem dX7_add_16 : decode cX7_add 16 = .ok (.getfield 9, 3) := by decide +kernel
theorem dX7_add_19 : decode cX7_add 19 = .ok (.iload 7, 2) := by decide +kernel
theorem dX7_add_21 : decode cX7_add 21 = .ok (.iload_n 1, 1) := by decide +kernel
theorem dX7_add_22 : decode cX7_add 22 = .ok (.castore, 1) := by decide +kernel
theorem dX7_add_23 : decode cX7_add 23 = .ok (.aload_n 0, 1) := by decide +kernel
theorem dX7_add_24 : decode cX7_add 24 = .ok (.getfield 15, 3) := by decide +kernel
theorem dX7_add_27 : decode cX7_add 27 = .ok (.iload 7, 2) := by decide +kernel
theorem dX7_add_29 : decode cX7_add 29 = .ok (.iload_n 2, 1) := by decide +kernel
theorem dX7_add_30 : decode cX7_add 30 = .ok (.castore, 1) := by decide +kernel
theorem dX7_add_31 : decode cX7_add 31 = .ok (.aload_n 0, 1) := by decide +kernel
theorem dX7_add_32 : decode cX7_add 32 = .ok (.getfield 18, 3) := by decide +kernel
theorem dX7_add_35 : decode cX7_add 35 = .ok (.iload 7, 2) := by decide +kernel
theorem dX7_add_37 : decode cX7_add 37 = .ok (.iload_n 3, 1) := by decide +kernel
theorem dX7_add_38 : decode cX7_add 38 = .ok (.iastore, 1) := by decide +kernel
theorem dX7_add_39 : decode cX7_add 39 = .ok (.aload_n 0, 1) := by decide +kernel
theorem dX7_add_40 : decode cX7_add 40 = .ok (.getfield 22, 3) := by decide +kernel
theorem dX7_add_43 : decode cX7_add 43 = .ok (.iload 7, 2) := by decide +kernel
theorem dX7_add_45 : decode cX7_add 45 = .ok (.iload 4, 2) := by decide +kernel
theorem dX7_add_47 : decode cX7_add 47 = .ok (.bastore, 1) := by decide +kernel
theorem dX7_add_48 : decode cX7_add 48 = .ok (.aload_n 0, 1) := by decide +kernel
theorem dX7_add_49 : decode cX7_add 49 = .ok (.getfield 26, 3) := by decide +kernel
theorem dX7_add_52 : decode cX7_add 52 = .ok (.iload 7, 2) := by decide +kernel
theorem dX7_add_54 : decode cX7_add 54 = .ok (.iload 5, 2) := by decide +kernel
theorem dX7_add_56 : decode cX7_add 56 = .ok (.bastore, 1) := by decide +kernel
theorem dX7_add_57 : decode cX7_add 57 = .ok (.aload_n 0, 1) := by decide +kernel
theorem dX7_add_58 : decode cX7_add 58 = .ok (.getfield 29, 3) := by decide +kernel
theorem dX7_add_61 : decode cX7_add 61 = .ok (.iload 7, 2) := by decide +kernel
theorem dX7_add_63 : decode cX7_add 63 = .ok (.iload 6, 2) := by decide +kernel
theorem dX7_add_65 : decode cX7_add 65 = .ok (.bastore, 1) := by decide +kernel
theorem dX7_add_66 : decode cX7_add 66 = .ok (.aload_n 0, 1) := by decide +kernel
theorem dX7_add_67 : decode cX7_add 67 = .ok (.getfield 32, 3) := by decide +kernel
theorem dX7_add_70 : decode cX7_add 70 = .ok (.iload 7, 2) := by decide +kernel
theorem dX7_add_72 : decode cX7_add 72 = .ok (.iload 7, 2) := by decide +kernel
theorem dX7_add_74 : decode cX7_add 74 = .ok (.iastore, 1) := by decide +kernel
theorem dX7_add_75 : decode cX7_add 75 = .ok (.aload_n 0, 1) := by decide +kernel
theorem dX7_add_76 : decode cX7_add 76 = .ok (.dup, 1) := by decide +kernel
theorem dX7_add_77 : decode cX7_add 77 = .ok (.getfield 35, 3) := by decide +kernel
theorem dX7_add_80 : decode cX7_add 80 = .ok (.iconst 1, 1) := by decide +kernel
theorem dX7_add_81 : decode cX7_add 81 = .ok (.iadd, 1) := by decide +kernel
theorem dX7_add_82 : decode cX7_add 82 = .ok (.putfield 35, 3) := by decide +kernel
theorem dX7_add_85 : decode cX7_add 85 = .ok (.iload 7, 2) := by decide +kernel
theorem dX7_add_87 : decode cX7_add 87 = .ok (.ireturn, 1) := by decide +kernel
set_option maxHeartbeats 4000000 in
set_option maxRecDepth 100000 in
theorem c_Roles_add (l : Launch) (hst : l.stackTraces = false) (tE : Nat) (adK adV : Nat → Nat) (dC : Nat → ClassId) (dI : Nat → Nat → Nat) (r0 : Nat) (a1 : Nat) (a2 : Nat) (a3 : Nat) (a4 : Nat) (a5 : Nat) (a6 : Nat) (a7 : Nat) (k1 : ClassId) (k2 : ClassId) (k3 : ClassId) (k4 : ClassId) (k5 : ClassId) (k6 : ClassId) (k7 : ClassId) (p1 : Int32) (p2 : Int32) (p3 : Int32) (p4 : Int32) (p5 : Int32) (p6 : Int32) (sz : Nat) : Met l yX7_add (Cond.code yX7_add cX7_add 8 (some .int) :: tw) ({ frames := 0, cells := 0, slots := 0, locals := 0 }) (va_Pc [.ref r0, .int p1, .int p2, .int p3, .int p4, .int p5, .int p6] (pre tE adK adV (dC, dI) [(r0, .inr (7, [.ref a1, .ref a2, .ref a3, .ref a4, .ref a5, .ref a6, .ref a7, .int 0])), (a1, .inl (k1, 8, .inl (fun _ => 0))), (a2, .inl (k2, 8, .inl (fun _ => 0))), (a3, .inl (k3, 8, .inl (fun _ => 0))), (a4, .inl (k4, 8, .inl (fun _ => 0))), (a5, .inl (k5, 8, .inl (fun _ => 0))), (a6, .inl (k6, 8, .inl (fun _ => 0))), (a7, .inl (k7, 8, .inl (fun _ => 0)))] [(k1, .char), (k2, .char), (k3, .int), (k4, .boolean), (k5, .boolean), (k6, .boolean), (k7, .int)] sz)) (va_Qi (fun (r : Int32) (_ : Unit) => r = 0) (fun (_ : Unit) (_ : State) => True) (va_A [(r0, .inr (7, [.ref a1, .ref a2, .ref a3, .ref a4, .ref a5, .ref a6, .ref a7, .int 0])), (a1, .inl (k1, 8, .inl (fun _ => 0))), (a2, .inl (k2, 8, .inl (fun _ => 0))), (a3, .inl (k3, 8, .inl (fun _ => 0))), (a4, .inl (k4, 8, .inl (fun _ => 0))), (a5, .inl (k5, 8, .inl (fun _ => 0))), (a6, .inl (k6, 8, .inl (fun _ => 0))), (a7, .inl (k7, 8, .inl (fun _ => 0)))] sz)) 0 0 (va_A [(r0, .inr (7, [.ref a1, .ref a2, .ref a3, .ref a4, .ref a5, .ref a6, .ref a7, .int 0])), (a1, .inl (k1, 8, .inl (fun _ => 0))), (a2, .inl (k2, 8, .inl (fun _ => 0))), (a3, .inl (k3, 8, .inl (fun _ => 0))), (a4, .inl (k4, 8, .inl (fun _ => 0))), (a5, .inl (k5, 8, .inl (fun _ => 0))), (a6, .inl (k6, 8, .inl (fun _ => 0))), (a7, .inl (k7, 8, .inl (fun _ => 0)))] sz) := by
  refine Met.ofW (cc := cX7_add) (maxL := 8) (ret := (some .int)) (by decide) rfl ?_
  intro p e s m args below meth c s₁ B hml hv
  obtain ⟨rfl, hsz, hP, hK, hD0, ham⟩ := hv
  have hx := B.exec
  have hb := B.bytes
  have hr := B.returns
  have hts := atoms_spec B.pre
  have hq : ∀ w ∈ tw, w.before _ s = true := fun w h => hts w (List.mem_cons_of_mem _ h)
  have hown : s.vm.findClass RX7 = some m.cls := findClass_of_methodNamed B.named
  have hlocks := B.notSynchronized
  subst hsz
  have hD := hD0.self (sz := s.heap.size)
  generalize hAe : va_A [(r0, .inr (7, [.ref a1, .ref a2, .ref a3, .ref a4, .ref a5, .ref a6, .ref a7, .int 0])), (a1, .inl (k1, 8, .inl (fun _ => 0))), (a2, .inl (k2, 8, .inl (fun _ => 0))), (a3, .inl (k3, 8, .inl (fun _ => 0))), (a4, .inl (k4, 8, .inl (fun _ => 0))), (a5, .inl (k5, 8, .inl (fun _ => 0))), (a6, .inl (k6, 8, .inl (fun _ => 0))), (a7, .inl (k7, 8, .inl (fun _ => 0)))] s.heap.size = A at hD ham ⊢
  have hA : ∀ q : Nat, s.heap.size ≤ q → A q := fun q h => by rw [← hAe]; exact Or.inr h
  have hS : va_S A s.heap s.heap [] := va_S.rf
  have hP : va_P (dC, dI) cls [(r0, .inr (7, [.ref a1, .ref a2, .ref a3, .ref a4, .ref a5, .ref a6, .ref a7, .int 0])), (a1, .inl (k1, 8, .inl (fun _ => 0))), (a2, .inl (k2, 8, .inl (fun _ => 0))), (a3, .inl (k3, 8, .inl (fun _ => 0))), (a4, .inl (k4, 8, .inl (fun _ => 0))), (a5, .inl (k5, 8, .inl (fun _ => 0))), (a6, .inl (k6, 8, .inl (fun _ => 0))), (a7, .inl (k7, 8, .inl (fun _ => 0)))] s.heap := hP
  have hl := lv_entry ([.ref r0, .int p1, .int p2, .int p3, .int p4, .int p5, .int p6]) (n := 8) (Nat.le_of_ble_eq_true rfl)
  rw [lg_entry_eq]
  generalize (lg_sl ([.ref r0, .int p1, .int p2, .int p3, .int p4, .int p5, .int p6]) ++ List.replicate (8 - (lg_sl ([.ref r0, .int p1, .int p2, .int p3, .int p4, .int p5, .int p6])).length) Slot.unset).toArray = ls at hl ⊢
  have hl : lv_has ls 8 [(0, .ref r0), (1, .int p1), (2, .int p2), (3, .int p3), (4, .int p4), (5, .int p5), (6, .int p6)] := hl
  refine lv_aload_n hx hb dX7_add_0 rfl (lv_at hl 0 rfl) ?_
  refine va_get (D := (dC, dI)) (ci := 7) (v := .int 0) (C := RX7) (T := TX7) (N := 8) hx hb hq i_X7 hown hK hP 0 rfl rfl 7 (by decide) (hq _ q_60) (fun _ h9 => h9) rfl dX7_add_1 ?_
  refine lv_istore (lv' := [(7, .int 0), (0, .ref r0), (1, .int p1), (2, .int p2), (3, .int p3), (4, .int p4), (5, .int p5), (6, .int p6)]) hx hb dX7_add_4 hl (by decide) rfl (fun ls hl => ?_)
  refine lv_iload hx hb dX7_add_6 (lv_at hl 0 rfl) ?_
  refine lv_bipush (v := 8) hx hb dX7_add_8 (by decide) ?_
  refine lv_icmp_lt (tgt := 15) hx hb dX7_add_10 (by decide) (fun c_1 => ?_) (fun c_1 => ?_)
  · refine lv_aload_n hx hb dX7_add_15 rfl (lv_at hl 1 rfl) ?_
    refine va_get (D := (dC, dI)) (ci := 7) (v := .ref a1) (C := RX7) (T := TX7) (N := 8) hx hb hq i_X7 hown hK hP 0 rfl rfl 0 (by decide) (hq _ q_53) (fun _ h9 => h9) rfl dX7_add_16 ?_
    refine lv_iload hx hb dX7_add_19 (lv_at hl 0 rfl) ?_
    refine lv_iload_n hx hb dX7_add_21 rfl (lv_at hl 2 rfl) ?_
    refine va_cast hx hb hK hP hD hS 1 0 rfl rfl (by unfold vp_in; decide) dX7_add_22 (fun H locs hP hD hS => ?_)
    obtain ⟨f_2, ef_2⟩ : ∃ z, z = (upd (fun _ => 0) (0 : Int32).toNatClampNeg (vp_nar .char p1)) := ⟨_, rfl⟩
    have hP : va_P (dC, dI) cls [(r0, .inr (7, [.ref a1, .ref a2, .ref a3, .ref a4, .ref a5, .ref a6, .ref a7, .int 0])), (a1, .inl (k1, 8, .inl f_2)), (a2, .inl (k2, 8, .inl (fun _ => 0))), (a3, .inl (k3, 8, .inl (fun _ => 0))), (a4, .inl (k4, 8, .inl (fun _ => 0))), (a5, .inl (k5, 8, .inl (fun _ => 0))), (a6, .inl (k6, 8, .inl (fun _ => 0))), (a7, .inl (k7, 8, .inl (fun _ => 0)))] H := by rw [ef_2]; exact hP
    have hD : va_D A [(r0, .inr (7, [.ref a1, .ref a2, .ref a3, .ref a4, .ref a5, .ref a6, .ref a7, .int 0])), (a1, .inl (k1, 8, .inl f_2)), (a2, .inl (k2, 8, .inl (fun _ => 0))), (a3, .inl (k3, 8, .inl (fun _ => 0))), (a4, .inl (k4, 8, .inl (fun _ => 0))), (a5, .inl (k5, 8, .inl (fun _ => 0))), (a6, .inl (k6, 8, .inl (fun _ => 0))), (a7, .inl (k7, 8, .inl (fun _ => 0)))] := by rw [ef_2]; exact hD
    refine lv_aload_n hx hb dX7_add_23 rfl (lv_at hl 1 rfl) ?_
    refine va_get (D := (dC, dI)) (ci := 7) (v := .ref a2) (C := RX7) (T := TX7) (N := 8) hx hb hq i_X7 hown hK hP 0 rfl rfl 1 (by decide) (hq _ q_54) (fun _ h9 => h9) rfl dX7_add_24 ?_
    refine lv_iload hx hb dX7_add_27 (lv_at hl 0 rfl) ?_
    refine lv_iload_n hx hb dX7_add_29 rfl (lv_at hl 3 rfl) ?_
    refine va_cast hx hb hK hP hD hS 2 1 rfl rfl (by unfold vp_in; decide) dX7_add_30 (fun H locs hP hD hS => ?_)
    obtain ⟨f_3, ef_3⟩ : ∃ z, z = (upd (fun _ => 0) (0 : Int32).toNatClampNeg (vp_nar .char p2)) := ⟨_, rfl⟩
    have hP : va_P (dC, dI) cls [(r0, .inr (7, [.ref a1, .ref a2, .ref a3, .ref a4, .ref a5, .ref a6, .ref a7, .int 0])), (a1, .inl (k1, 8, .inl f_2)), (a2, .inl (k2, 8, .inl f_3)), (a3, .inl (k3, 8, .inl (fun _ => 0))), (a4, .inl (k4, 8, .inl (fun _ => 0))), (a5, .inl (k5, 8, .inl (fun _ => 0))), (a6, .inl (k6, 8, .inl (fun _ => 0))), (a7, .inl (k7, 8, .inl (fun _ => 0)))] H := by rw [ef_3]; exact hP
    have hD : va_D A [(r0, .inr (7, [.ref a1, .ref a2, .ref a3, .ref a4, .ref a5, .ref a6, .ref a7, .int 0])), (a1, .inl (k1, 8, .inl f_2)), (a2, .inl (k2, 8, .inl f_3)), (a3, .inl (k3, 8, .inl (fun _ => 0))), (a4, .inl (k4, 8, .inl (fun _ => 0))), (a5, .inl (k5, 8, .inl (fun _ => 0))), (a6, .inl (k6, 8, .inl (fun _ => 0))), (a7, .inl (k7, 8, .inl (fun _ => 0)))] := by rw [ef_3]; exact hD
    refine lv_aload_n hx hb dX7_add_31 rfl (lv_at hl 1 rfl) ?_
    refine va_get (D := (dC, dI)) (ci := 7) (v := .ref a3) (C := RX7) (T := TX7) (N := 8) hx hb hq i_X7 hown hK hP 0 rfl rfl 2 (by decide) (hq _ q_55) (fun _ h9 => h9) rfl dX7_add_32 ?_
    refine lv_iload hx hb dX7_add_35 (lv_at hl 0 rfl) ?_
    refine lv_iload_n hx hb dX7_add_37 rfl (lv_at hl 4 rfl) ?_
    refine va_iast hx hb hK hP hD hS 3 2 rfl rfl (by unfold vp_in; decide) dX7_add_38 (fun H locs hP hD hS => ?_)
    obtain ⟨f_4, ef_4⟩ : ∃ z, z = (upd (fun _ => 0) (0 : Int32).toNatClampNeg p3) := ⟨_, rfl⟩
    have hP : va_P (dC, dI) cls [(r0, .inr (7, [.ref a1, .ref a2, .ref a3, .ref a4, .ref a5, .ref a6, .ref a7, .int 0])), (a1, .inl (k1, 8, .inl f_2)), (a2, .inl (k2, 8, .inl f_3)), (a3, .inl (k3, 8, .inl f_4)), (a4, .inl (k4, 8, .inl (fun _ => 0))), (a5, .inl (k5, 8, .inl (fun _ => 0))), (a6, .inl (k6, 8, .inl (fun _ => 0))), (a7, .inl (k7, 8, .inl (fun _ => 0)))] H := by rw [ef_4]; exact hP
    have hD : va_D A [(r0, .inr (7, [.ref a1, .ref a2, .ref a3, .ref a4, .ref a5, .ref a6, .ref a7, .int 0])), (a1, .inl (k1, 8, .inl f_2)), (a2, .inl (k2, 8, .inl f_3)), (a3, .inl (k3, 8, .inl f_4)), (a4, .inl (k4, 8, .inl (fun _ => 0))), (a5, .inl (k5, 8, .inl (fun _ => 0))), (a6, .inl (k6, 8, .inl (fun _ => 0))), (a7, .inl (k7, 8, .inl (fun _ => 0)))] := by rw [ef_4]; exact hD
    refine lv_aload_n hx hb dX7_add_39 rfl (lv_at hl 1 rfl) ?_
    refine va_get (D := (dC, dI)) (ci := 7) (v := .ref a4) (C := RX7) (T := TX7) (N := 8) hx hb hq i_X7 hown hK hP 0 rfl rfl 3 (by decide) (hq _ q_56) (fun _ h9 => h9) rfl dX7_add_40 ?_
    refine lv_iload hx hb dX7_add_43 (lv_at hl 0 rfl) ?_
    refine lv_iload hx hb dX7_add_45 (lv_at hl 5 rfl) ?_
    refine va_zast hx hb hK hP hD hS 4 3 rfl rfl (by unfold vp_in; decide) dX7_add_47 (fun H locs hP hD hS => ?_)
    obtain ⟨f_5, ef_5⟩ : ∃ z, z = (upd (fun _ => 0) (0 : Int32).toNatClampNeg (vp_nar .boolean p4)) := ⟨_, rfl⟩
    have hP : va_P (dC, dI) cls [(r0, .inr (7, [.ref a1, .ref a2, .ref a3, .ref a4, .ref a5, .ref a6, .ref a7, .int 0])), (a1, .inl (k1, 8, .inl f_2)), (a2, .inl (k2, 8, .inl f_3)), (a3, .inl (k3, 8, .inl f_4)), (a4, .inl (k4, 8, .inl f_5)), (a5, .inl (k5, 8, .inl (fun _ => 0))), (a6, .inl (k6, 8, .inl (fun _ => 0))), (a7, .inl (k7, 8, .inl (fun _ => 0)))] H := by rw [ef_5]; exact hP
    have hD : va_D A [(r0, .inr (7, [.ref a1, .ref a2, .ref a3, .ref a4, .ref a5, .ref a6, .ref a7, .int 0])), (a1, .inl (k1, 8, .inl f_2)), (a2, .inl (k2, 8, .inl f_3)), (a3, .inl (k3, 8, .inl f_4)), (a4, .inl (k4, 8, .inl f_5)), (a5, .inl (k5, 8, .inl (fun _ => 0))), (a6, .inl (k6, 8, .inl (fun _ => 0))), (a7, .inl (k7, 8, .inl (fun _ => 0)))] := by rw [ef_5]; exact hD
    refine lv_aload_n hx hb dX7_add_48 rfl (lv_at hl 1 rfl) ?_
    refine va_get (D := (dC, dI)) (ci := 7) (v := .ref a5) (C := RX7) (T := TX7) (N := 8) hx hb hq i_X7 hown hK hP 0 rfl rfl 4 (by decide) (hq _ q_57) (fun _ h9 => h9) rfl dX7_add_49 ?_
    refine lv_iload hx hb dX7_add_52 (lv_at hl 0 rfl) ?_
    refine lv_iload hx hb dX7_add_54 (lv_at hl 6 rfl) ?_
    refine va_zast hx hb hK hP hD hS 5 4 rfl rfl (by unfold vp_in; decide) dX7_add_56 (fun H locs hP hD hS => ?_)
    obtain ⟨f_6, ef_6⟩ : ∃ z, z = (upd (fun _ => 0) (0 : Int32).toNatClampNeg (vp_nar .boolean p5)) := ⟨_, rfl⟩
    have hP : va_P (dC, dI) cls [(r0, .inr (7, [.ref a1, .ref a2, .ref a3, .ref a4, .ref a5, .ref a6, .ref a7, .int 0])), (a1, .inl (k1, 8, .inl f_2)), (a2, .inl (k2, 8, .inl f_3)), (a3, .inl (k3, 8, .inl f_4)), (a4, .inl (k4, 8, .inl f_5)), (a5, .inl (k5, 8, .inl f_6)), (a6, .inl (k6, 8, .inl (fun _ => 0))), (a7, .inl (k7, 8, .inl (fun _ => 0)))] H := by rw [ef_6]; exact hP
    have hD : va_D A [(r0, .inr (7, [.ref a1, .ref a2, .ref a3, .ref a4, .ref a5, .ref a6, .ref a7, .int 0])), (a1, .inl (k1, 8, .inl f_2)), (a2, .inl (k2, 8, .inl f_3)), (a3, .inl (k3, 8, .inl f_4)), (a4, .inl (k4, 8, .inl f_5)), (a5, .inl (k5, 8, .inl f_6)), (a6, .inl (k6, 8, .inl (fun _ => 0))), (a7, .inl (k7, 8, .inl (fun _ => 0)))] := by rw [ef_6]; exact hD
    refine lv_aload_n hx hb dX7_add_57 rfl (lv_at hl 1 rfl) ?_
    refine va_get (D := (dC, dI)) (ci := 7) (v := .ref a6) (C := RX7) (T := TX7) (N := 8) hx hb hq i_X7 hown hK hP 0 rfl rfl 5 (by decide) (hq _ q_58) (fun _ h9 => h9) rfl dX7_add_58 ?_
    refine lv_iload hx hb dX7_add_61 (lv_at hl 0 rfl) ?_
    refine lv_iload hx hb dX7_add_63 (lv_at hl 7 rfl) ?_
    refine va_zast hx hb hK hP hD hS 6 5 rfl rfl (by unfold vp_in; decide) dX7_add_65 (fun H locs hP hD hS => ?_)
    obtain ⟨f_7, ef_7⟩ : ∃ z, z = (upd (fun _ => 0) (0 : Int32).toNatClampNeg (vp_nar .boolean p6)) := ⟨_, rfl⟩
    have hP : va_P (dC, dI) cls [(r0, .inr (7, [.ref a1, .ref a2, .ref a3, .ref a4, .ref a5, .ref a6, .ref a7, .int 0])), (a1, .inl (k1, 8, .inl f_2)), (a2, .inl (k2, 8, .inl f_3)), (a3, .inl (k3, 8, .inl f_4)), (a4, .inl (k4, 8, .inl f_5)), (a5, .inl (k5, 8, .inl f_6)), (a6, .inl (k6, 8, .inl f_7)), (a7, .inl (k7, 8, .inl (fun _ => 0)))] H := by rw [ef_7]; exact hP
    have hD : va_D A [(r0, .inr (7, [.ref a1, .ref a2, .ref a3, .ref a4, .ref a5, .ref a6, .ref a7, .int 0])), (a1, .inl (k1, 8, .inl f_2)), (a2, .inl (k2, 8, .inl f_3)), (a3, .inl (k3, 8, .inl f_4)), (a4, .inl (k4, 8, .inl f_5)), (a5, .inl (k5, 8, .inl f_6)), (a6, .inl (k6, 8, .inl f_7)), (a7, .inl (k7, 8, .inl (fun _ => 0)))] := by rw [ef_7]; exact hD
    refine lv_aload_n hx hb dX7_add_66 rfl (lv_at hl 1 rfl) ?_
    refine va_get (D := (dC, dI)) (ci := 7) (v := .ref a7) (C := RX7) (T := TX7) (N := 8) hx hb hq i_X7 hown hK hP 0 rfl rfl 6 (by decide) (hq _ q_59) (fun _ h9 => h9) rfl dX7_add_67 ?_
    refine lv_iload hx hb dX7_add_70 (lv_at hl 0 rfl) ?_
    refine lv_iload hx hb dX7_add_72 (lv_at hl 0 rfl) ?_
    refine va_iast hx hb hK hP hD hS 7 6 rfl rfl (by unfold vp_in; decide) dX7_add_74 (fun H locs hP hD hS => ?_)
    obtain ⟨f_8, ef_8⟩ : ∃ z, z = (upd (fun _ => 0) (0 : Int32).toNatClampNeg 0) := ⟨_, rfl⟩
    have hP : va_P (dC, dI) cls [(r0, .inr (7, [.ref a1, .ref a2, .ref a3, .ref a4, .ref a5, .ref a6, .ref a7, .int 0])), (a1, .inl (k1, 8, .inl f_2)), (a2, .inl (k2, 8, .inl f_3)), (a3, .inl (k3, 8, .inl f_4)), (a4, .inl (k4, 8, .inl f_5)), (a5, .inl (k5, 8, .inl f_6)), (a6, .inl (k6, 8, .inl f_7)), (a7, .inl (k7, 8, .inl f_8))] H := by rw [ef_8]; exact hP
    have hD : va_D A [(r0, .inr (7, [.ref a1, .ref a2, .ref a3, .ref a4, .ref a5, .ref a6, .ref a7, .int 0])), (a1, .inl (k1, 8, .inl f_2)), (a2, .inl (k2, 8, .inl f_3)), (a3, .inl (k3, 8, .inl f_4)), (a4, .inl (k4, 8, .inl f_5)), (a5, .inl (k5, 8, .inl f_6)), (a6, .inl (k6, 8, .inl f_7)), (a7, .inl (k7, 8, .inl f_8))] := by rw [ef_8]; exact hD
    refine lv_aload_n hx hb dX7_add_75 rfl (lv_at hl 1 rfl) ?_
    refine lv_dup hx hb dX7_add_76 rfl ?_
    refine va_get (D := (dC, dI)) (ci := 7) (v := .int 0) (C := RX7) (T := TX7) (N := 8) hx hb hq i_X7 hown hK hP 0 rfl rfl 7 (by decide) (hq _ q_60) (fun _ h9 => h9) rfl dX7_add_77 ?_
    refine lv_iconst (v := 1) hx hb dX7_add_80 (by decide) ?_
    refine lv_iadd hx hb dX7_add_81 ?_
    refine W.eq (congrArg (fun z : Int32 => F0 m 82 ls (.int z :: [.ref r0])) (by decide : (0 + 1 : Int32) = 1)) ?_
    refine va_put (D := (dC, dI)) (ci := 7) (v := .int 1) (ty := .int) (C := RX7) (T := TX7) (N := 8) hx hb hq i_X7 tyX7 tyX7_ok nmX7 hown hK hP hD hS 0 rfl rfl 7 (by decide) (hq _ q_60) (fun _ h9 => h9) rfl (by decide +kernel) rfl rfl (Nat.le_of_ble_eq_true rfl) dX7_add_82 (fun H locs hP hD hS => ?_)
    have hP : va_P (dC, dI) cls [(r0, .inr (7, [.ref a1, .ref a2, .ref a3, .ref a4, .ref a5, .ref a6, .ref a7, .int 1])), (a1, .inl (k1, 8, .inl f_2)), (a2, .inl (k2, 8, .inl f_3)), (a3, .inl (k3, 8, .inl f_4)), (a4, .inl (k4, 8, .inl f_5)), (a5, .inl (k5, 8, .inl f_6)), (a6, .inl (k6, 8, .inl f_7)), (a7, .inl (k7, 8, .inl f_8))] H := hP
    have hD : va_D A [(r0, .inr (7, [.ref a1, .ref a2, .ref a3, .ref a4, .ref a5, .ref a6, .ref a7, .int 1])), (a1, .inl (k1, 8, .inl f_2)), (a2, .inl (k2, 8, .inl f_3)), (a3, .inl (k3, 8, .inl f_4)), (a4, .inl (k4, 8, .inl f_5)), (a5, .inl (k5, 8, .inl f_6)), (a6, .inl (k6, 8, .inl f_7)), (a7, .inl (k7, 8, .inl f_8))] := hD
    refine lv_iload hx hb dX7_add_85 (lv_at hl 0 rfl) ?_
    refine W.widen (k := 0) (n := 0) (Nat.le_of_ble_eq_true rfl) (Nat.le_of_ble_eq_true rfl) ?_
    exact W.iret (v := 0) hx hb hr (fun t ht hW => ⟨⟨0, (), rfl, rfl, trivial⟩, hS.F ht⟩) hS.2.2 dX7_add_87
  · exact absurd c_1 (by decide)
abbrev cX10_role : ByteArray := prog_1_method_2_code
def yX10_role : MethodName := ⟨RX10, "role", "(CCIZZZ)I"⟩
theorem dX10_role_0 : decode cX10_role 0 = .ok (.iload_n 1, 1) := by decide +kernel
theorem dX10_role_1 : decode cX10_role 1 = .ok (.invokestatic 69, 3) := by decide +kernel
theorem q_692 : (Cond.code yX10_isSide cX10_isSide 1 (some .boolean)) ∈ tw := tw_in (i := 692) (by decide +kernel) (by decide +kernel)
theorem q_690 : (Cond.methodLink "NightfallVillage" 69 yX10_isSide) ∈ tw := tw_in (i := 690) (by decide +kernel) (by decide +kernel)
theorem q_691 : (Cond.static yX10_isSide) ∈ tw := tw_in (i := 691) (by decide +kernel) (by decide +kernel)
theorem dX10_role_4 : decode cX10_role 4 = .ok (.ifCond .eq 20, 3) := by decide +kernel
theorem dX10_role_7 : decode cX10_role 7 = .ok (.iload_n 2, 1) := by decide +kernel
theorem dX10_role_8 : decode cX10_role 8 = .ok (.invokestatic 73, 3) := by decide +kernel
theorem q_695 : (Cond.code yX10_isAct cX10_isAct 1 (some .boolean)) ∈ tw := tw_in (i := 695) (by decide +kernel) (by decide +kernel)
theorem q_693 : (Cond.methodLink "NightfallVillage" 73 yX10_isAct) ∈ tw := tw_in (i := 693) (by decide +kernel) (by decide +kernel)
theorem q_694 : (Cond.static yX10_isAct) ∈ tw := tw_in (i := 694) (by decide +kernel) (by decide +kernel)
theorem dX10_role_11 : decode cX10_role 11 = .ok (.ifCond .eq 13, 3) := by decide +kernel
theorem dX10_role_14 : decode cX10_role 14 = .ok (.iload_n 3, 1) := by decide +kernel
theorem dX10_role_15 : decode cX10_role 15 = .ok (.iconst 1, 1) := by decide +kernel
theorem dX10_role_16 : decode cX10_role 16 = .ok (.if_icmp .lt 8, 3) := by decide +kernel
theorem dX10_role_19 : decode cX10_role 19 = .ok (.iload_n 3, 1) := by decide +kernel
theorem dX10_role_20 : decode cX10_role 20 = .ok (.iconst 2, 1) := by decide +kernel
theorem dX10_role_21 : decode cX10_role 21 = .ok (.if_icmp .le 13, 3) := by decide +kernel
theorem dX10_role_34 : decode cX10_role 34 = .ok (.aload_n 0, 1) := by decide +kernel
theorem dX10_role_35 : decode cX10_role 35 = .ok (.invokevirtual 83, 3) := by decide +kernel
theorem dX10_role_38 : decode cX10_role 38 = .ok (.aload_n 0, 1) := by decide +kernel
theorem dX10_role_39 : decode cX10_role 39 = .ok (.getfield 10, 3) := by decide +kernel
theorem dX10_role_42 : decode cX10_role 42 = .ok (.getfield 86, 3) := by decide +kernel
theorem q_61 : (Cond.fieldLinkNest "NightfallVillage" 86 "NightfallVillage$Roles" "count" "I" "NightfallVillage") ∈ tw := tw_in (i := 61) (by decide +kernel) (by decide +kernel)
theorem dX10_role_45 : decode cX10_role 45 = .ok (.bipush 8, 2) := by decide +kernel
theorem dX10_role_47 : decode cX10_role 47 = .ok (.if_icmp .lt 13, 3) := by decide +kernel
theorem dX10_role_60 : decode cX10_role 60 = .ok (.aload_n 0, 1) := by decide +kernel
theorem dX10_role_61 : decode cX10_role 61 = .ok (.getfield 10, 3) := by decide +kernel
theorem dX10_role_64 : decode cX10_role 64 = .ok (.iload_n 1, 1) := by decide +kernel
theorem dX10_role_65 : decode cX10_role 65 = .ok (.iload_n 2, 1) := by decide +kernel
theorem dX10_role_66 : decode cX10_role 66 = .ok (.iload_n 3, 1) := by decide +kernel
theorem dX10_role_67 : decode cX10_role 67 = .ok (.iload 4, 2) := by decide +kernel
theorem dX10_role_69 : decode cX10_role 69 = .ok (.iload 5, 2) := by decide +kernel
theorem dX10_role_71 : decode cX10_role 71 = .ok (.iload 6, 2) := by decide +kernel
theorem dX10_role_73 : decode cX10_role 73 = .ok (.invokevirtual 95, 3) := by decide +kernel
theorem q_805 : (Cond.code yX7_add cX7_add 8 (some .int)) ∈ tw := tw_in (i := 805) (by decide +kernel) (by decide +kernel)
theorem q_802 : (Cond.methodLink "NightfallVillage" 95 yX7_add) ∈ tw := tw_in (i := 802) (by decide +kernel) (by decide +kernel)
theorem q_803 : (Cond.instanceMethod yX7_add) ∈ tw := tw_in (i := 803) (by decide +kernel) (by decide +kernel)
theorem q_804 : (Cond.selects "NightfallVillage$Roles" yX7_add yX7_add) ∈ tw := tw_in (i := 804) (by decide +kernel) (by decide +kernel)
theorem dX10_role_76 : decode cX10_role 76 = .ok (.ireturn, 1) := by decide +kernel
set_option maxHeartbeats 4000000 in
set_option maxRecDepth 100000 in
theorem c_X_role_ok (l : Launch) (hst : l.stackTraces = false) (tE : Nat) (adK adV : Nat → Nat) (dC : Nat → ClassId) (dI : Nat → Nat → Nat) (h0 : Nat) (r0 : Nat) (d0 : Nat) (g0 : Nat) (g1 : Nat) (y1 : Nat) (s1 : Nat) (l1 : Nat) (w1 : Nat) (a1 : Nat) (a2 : Nat) (a3 : Nat) (a4 : Nat) (a5 : Nat) (a6 : Nat) (a7 : Nat) (k1 : ClassId) (k2 : ClassId) (k3 : ClassId) (k4 : ClassId) (k5 : ClassId) (k6 : ClassId) (k7 : ClassId) (b1 : Nat) (b2 : Nat) (b3 : Nat) (f0 : Nat) (n0 : Nat) (y0 : Nat) (z1 : Nat) (z2 : Nat) (z3 : Nat) (z4 : Nat) (z5 : Nat) (p1 : Int32) (p2 : Int32) (p3 : Int32) (p4 : Int32) (p5 : Int32) (p6 : Int32) (hok : okR p1 p2 p3) (sz : Nat) : Met l yX10_role (Cond.code yX10_role cX10_role 7 (some .int) :: tw) ({ frames := 1, cells := 0, slots := 0, locals := 27 }) (va_Pc [.ref h0, .int p1, .int p2, .int p3, .int p4, .int p5, .int p6] (pre tE adK adV (dC, dI) [(h0, .inr (10, [.ref r0, .ref d0, .ref g0, .ref g1, .ref y1, .ref s1, .ref l1, .ref w1])), (r0, .inr (7, [.ref a1, .ref a2, .ref a3, .ref a4, .ref a5, .ref a6, .ref a7, .int 0])), (a1, .inl (k1, 8, .inl (fun _ => 0))), (a2, .inl (k2, 8, .inl (fun _ => 0))), (a3, .inl (k3, 8, .inl (fun _ => 0))), (a4, .inl (k4, 8, .inl (fun _ => 0))), (a5, .inl (k5, 8, .inl (fun _ => 0))), (a6, .inl (k6, 8, .inl (fun _ => 0))), (a7, .inl (k7, 8, .inl (fun _ => 0))), (d0, .inr (2, [.ref b1, .ref b2, .ref b3, .int 0, .int (-1), .int (-1)])), (g0, .inr (4, [.ref f0, .ref n0, .ref y0, .int 0, .int 0, .int 0, .int 45])), (f0, .inr (3, [.ref r0, .ref d0, .ref z1, .ref z2, .ref z3, .ref z4, .ref z5, .int 0, .int 0]))] [(k1, .char), (k2, .char), (k3, .int), (k4, .boolean), (k5, .boolean), (k6, .boolean), (k7, .int)] sz)) (va_Qi (fun (r : Int32) (_ : Unit) => r = 0) (fun (_ : Unit) (_ : State) => True) (va_A [(h0, .inr (10, [.ref r0, .ref d0, .ref g0, .ref g1, .ref y1, .ref s1, .ref l1, .ref w1])), (r0, .inr (7, [.ref a1, .ref a2, .ref a3, .ref a4, .ref a5, .ref a6, .ref a7, .int 0])), (a1, .inl (k1, 8, .inl (fun _ => 0))), (a2, .inl (k2, 8, .inl (fun _ => 0))), (a3, .inl (k3, 8, .inl (fun _ => 0))), (a4, .inl (k4, 8, .inl (fun _ => 0))), (a5, .inl (k5, 8, .inl (fun _ => 0))), (a6, .inl (k6, 8, .inl (fun _ => 0))), (a7, .inl (k7, 8, .inl (fun _ => 0))), (d0, .inr (2, [.ref b1, .ref b2, .ref b3, .int 0, .int (-1), .int (-1)])), (g0, .inr (4, [.ref f0, .ref n0, .ref y0, .int 0, .int 0, .int 0, .int 45])), (f0, .inr (3, [.ref r0, .ref d0, .ref z1, .ref z2, .ref z3, .ref z4, .ref z5, .int 0, .int 0]))] sz)) 0 0 (va_A [(h0, .inr (10, [.ref r0, .ref d0, .ref g0, .ref g1, .ref y1, .ref s1, .ref l1, .ref w1])), (r0, .inr (7, [.ref a1, .ref a2, .ref a3, .ref a4, .ref a5, .ref a6, .ref a7, .int 0])), (a1, .inl (k1, 8, .inl (fun _ => 0))), (a2, .inl (k2, 8, .inl (fun _ => 0))), (a3, .inl (k3, 8, .inl (fun _ => 0))), (a4, .inl (k4, 8, .inl (fun _ => 0))), (a5, .inl (k5, 8, .inl (fun _ => 0))), (a6, .inl (k6, 8, .inl (fun _ => 0))), (a7, .inl (k7, 8, .inl (fun _ => 0))), (d0, .inr (2, [.ref b1, .ref b2, .ref b3, .int 0, .int (-1), .int (-1)])), (g0, .inr (4, [.ref f0, .ref n0, .ref y0, .int 0, .int 0, .int 0, .int 45])), (f0, .inr (3, [.ref r0, .ref d0, .ref z1, .ref z2, .ref z3, .ref z4, .ref z5, .int 0, .int 0]))] sz) := by
  refine Met.ofW (cc := cX10_role) (maxL := 7) (ret := (some .int)) (by decide) rfl ?_
  intro p e s m args below meth c s₁ B hml hv
  obtain ⟨rfl, hsz, hP, hK, hD0, ham⟩ := hv
  have hx := B.exec
  have hb := B.bytes
  have hr := B.returns
  have hts := atoms_spec B.pre
  have hq : ∀ w ∈ tw, w.before _ s = true := fun w h => hts w (List.mem_cons_of_mem _ h)
  have hown : s.vm.findClass RX10 = some m.cls := findClass_of_methodNamed B.named
  have hlocks := B.notSynchronized
  subst hsz
  have hD := hD0.self (sz := s.heap.size)
  generalize hAe : va_A [(h0, .inr (10, [.ref r0, .ref d0, .ref g0, .ref g1, .ref y1, .ref s1, .ref l1, .ref w1])), (r0, .inr (7, [.ref a1, .ref a2, .ref a3, .ref a4, .ref a5, .ref a6, .ref a7, .int 0])), (a1, .inl (k1, 8, .inl (fun _ => 0))), (a2, .inl (k2, 8, .inl (fun _ => 0))), (a3, .inl (k3, 8, .inl (fun _ => 0))), (a4, .inl (k4, 8, .inl (fun _ => 0))), (a5, .inl (k5, 8, .inl (fun _ => 0))), (a6, .inl (k6, 8, .inl (fun _ => 0))), (a7, .inl (k7, 8, .inl (fun _ => 0))), (d0, .inr (2, [.ref b1, .ref b2, .ref b3, .int 0, .int (-1), .int (-1)])), (g0, .inr (4, [.ref f0, .ref n0, .ref y0, .int 0, .int 0, .int 0, .int 45])), (f0, .inr (3, [.ref r0, .ref d0, .ref z1, .ref z2, .ref z3, .ref z4, .ref z5, .int 0, .int 0]))] s.heap.size = A at hD ham ⊢
  have hA : ∀ q : Nat, s.heap.size ≤ q → A q := fun q h => by rw [← hAe]; exact Or.inr h
  have hS : va_S A s.heap s.heap [] := va_S.rf
  have hP : va_P (dC, dI) cls [(h0, .inr (10, [.ref r0, .ref d0, .ref g0, .ref g1, .ref y1, .ref s1, .ref l1, .ref w1])), (r0, .inr (7, [.ref a1, .ref a2, .ref a3, .ref a4, .ref a5, .ref a6, .ref a7, .int 0])), (a1, .inl (k1, 8, .inl (fun _ => 0))), (a2, .inl (k2, 8, .inl (fun _ => 0))), (a3, .inl (k3, 8, .inl (fun _ => 0))), (a4, .inl (k4, 8, .inl (fun _ => 0))), (a5, .inl (k5, 8, .inl (fun _ => 0))), (a6, .inl (k6, 8, .inl (fun _ => 0))), (a7, .inl (k7, 8, .inl (fun _ => 0))), (d0, .inr (2, [.ref b1, .ref b2, .ref b3, .int 0, .int (-1), .int (-1)])), (g0, .inr (4, [.ref f0, .ref n0, .ref y0, .int 0, .int 0, .int 0, .int 45])), (f0, .inr (3, [.ref r0, .ref d0, .ref z1, .ref z2, .ref z3, .ref z4, .ref z5, .int 0, .int 0]))] s.heap := hP
  have hl := lv_entry ([.ref h0, .int p1, .int p2, .int p3, .int p4, .int p5, .int p6]) (n := 7) (Nat.le_of_ble_eq_true rfl)
  rw [lg_entry_eq]
  generalize (lg_sl ([.ref h0, .int p1, .int p2, .int p3, .int p4, .int p5, .int p6]) ++ List.replicate (7 - (lg_sl ([.ref h0, .int p1, .int p2, .int p3, .int p4, .int p5, .int p6])).length) Slot.unset).toArray = ls at hl ⊢
  have hl : lv_has ls 7 [(0, .ref h0), (1, .int p1), (2, .int p2), (3, .int p3), (4, .int p4), (5, .int p5), (6, .int p6)] := hl
  refine lv_iload_n hx hb dX10_role_0 rfl (lv_at hl 1 rfl) ?_
  have hPc := hP.sub (ws' := []) [] rfl
  have hKc := hK.sub (tys' := []) [] rfl
  refine va_calli (va_runS (As := [.int p1]) (rest := []) ⟨hx, hb, hml, hown, hq⟩ (c_isSide l hst tE adK adV dC dI p1 s.heap.size) (tcS 1 hq q_692 q_1 q_690 q_691 rfl rfl (by decide +kernel) ⟨Nat.le_of_ble_eq_true rfl, Nat.le_of_ble_eq_true rfl⟩) (preR.S (preR.of hPc hKc ham hS hA)) rfl rfl hl.1 rfl (lv_room (Nat.le_of_ble_eq_true rfl)) dX10_role_1 ⟨Nat.le_of_ble_eq_true rfl, Nat.le_of_ble_eq_true rfl⟩) hS (fun q _ h => hA q (Nat.le_trans hS.1 h)) (fun q h => hA q (Nat.le_trans hS.1 h)) (fun r_1 u t H1 locs ht hvm hw hB hz1 hk1 hS => ?_)
  have hP : va_P (dC, dI) cls [(h0, .inr (10, [.ref r0, .ref d0, .ref g0, .ref g1, .ref y1, .ref s1, .ref l1, .ref w1])), (r0, .inr (7, [.ref a1, .ref a2, .ref a3, .ref a4, .ref a5, .ref a6, .ref a7, .int 0])), (a1, .inl (k1, 8, .inl (fun _ => 0))), (a2, .inl (k2, 8, .inl (fun _ => 0))), (a3, .inl (k3, 8, .inl (fun _ => 0))), (a4, .inl (k4, 8, .inl (fun _ => 0))), (a5, .inl (k5, 8, .inl (fun _ => 0))), (a6, .inl (k6, 8, .inl (fun _ => 0))), (a7, .inl (k7, 8, .inl (fun _ => 0))), (d0, .inr (2, [.ref b1, .ref b2, .ref b3, .int 0, .int (-1), .int (-1)])), (g0, .inr (4, [.ref f0, .ref n0, .ref y0, .int 0, .int 0, .int 0, .int 45])), (f0, .inr (3, [.ref r0, .ref d0, .ref z1, .ref z2, .ref z3, .ref z4, .ref z5, .int 0, .int 0]))] H1 := ro_keep hP hk1
  generalize H1 = H at hP hS ⊢
  refine W.widen (k := 0) (n := 0) (Nat.le_of_ble_eq_true rfl) (Nat.le_of_ble_eq_true rfl) ?_
  rcases hw with ⟨er_hc_2, hc_2⟩ | ⟨er_hc_2, hc_2⟩
  · subst er_hc_2
    refine lv_if_eq (tgt := 24) hx hb dX10_role_4 (by decide) (fun c_3 => ?_) (fun c_3 => ?_)
    · exact absurd c_3 (by decide)
    · refine lv_iload_n hx hb dX10_role_7 rfl (lv_at hl 2 rfl) ?_
      have hPc := hP.sub (ws' := []) [] rfl
      have hKc := hK.sub (tys' := []) [] rfl
      refine va_calli (va_runS (As := [.int p2]) (rest := []) ⟨hx, hb, hml, hown, hq⟩ (c_isAct l hst tE adK adV dC dI p2 H.size) (tcS 1 hq q_695 q_1 q_693 q_694 rfl rfl (by decide +kernel) ⟨Nat.le_of_ble_eq_true rfl, Nat.le_of_ble_eq_true rfl⟩) (preR.S (preR.of hPc hKc ham hS hA)) rfl rfl hl.1 rfl (lv_room (Nat.le_of_ble_eq_true rfl)) dX10_role_8 ⟨Nat.le_of_ble_eq_true rfl, Nat.le_of_ble_eq_true rfl⟩) hS (fun q _ h => hA q (Nat.le_trans hS.1 h)) (fun q h => hA q (Nat.le_trans hS.1 h)) (fun r_4 u t H1 locs ht hvm hw hB hz1 hk1 hS => ?_)
      have hP : va_P (dC, dI) cls [(h0, .inr (10, [.ref r0, .ref d0, .ref g0, .ref g1, .ref y1, .ref s1, .ref l1, .ref w1])), (r0, .inr (7, [.ref a1, .ref a2, .ref a3, .ref a4, .ref a5, .ref a6, .ref a7, .int 0])), (a1, .inl (k1, 8, .inl (fun _ => 0))), (a2, .inl (k2, 8, .inl (fun _ => 0))), (a3, .inl (k3, 8, .inl (fun _ => 0))), (a4, .inl (k4, 8, .inl (fun _ => 0))), (a5, .inl (k5, 8, .inl (fun _ => 0))), (a6, .inl (k6, 8, .inl (fun _ => 0))), (a7, .inl (k7, 8, .inl (fun _ => 0))), (d0, .inr (2, [.ref b1, .ref b2, .ref b3, .int 0, .int (-1), .int (-1)])), (g0, .inr (4, [.ref f0, .ref n0, .ref y0, .int 0, .int 0, .int 0, .int 45])), (f0, .inr (3, [.ref r0, .ref d0, .ref z1, .ref z2, .ref z3, .ref z4, .ref z5, .int 0, .int 0]))] H1 := ro_keep hP hk1
      generalize H1 = H at hP hS ⊢
      refine W.widen (k := 0) (n := 0) (Nat.le_of_ble_eq_true rfl) (Nat.le_of_ble_eq_true rfl) ?_
      rcases hw with ⟨er_hc_5, hc_5⟩ | ⟨er_hc_5, hc_5⟩
      · subst er_hc_5
        refine lv_if_eq (tgt := 24) hx hb dX10_role_11 (by decide) (fun c_6 => ?_) (fun c_6 => ?_)
        · exact absurd c_6 (by decide)
        · refine lv_iload_n hx hb dX10_role_14 rfl (lv_at hl 3 rfl) ?_
          refine lv_iconst (v := 1) hx hb dX10_role_15 (by decide) ?_
          refine lv_icmp_lt (tgt := 24) hx hb dX10_role_16 (by decide) (fun c_7 => ?_) (fun c_7 => ?_)
          · exact absurd c_7 hok.2.2.1
          · refine lv_iload_n hx hb dX10_role_19 rfl (lv_at hl 3 rfl) ?_
            refine lv_iconst (v := 2) hx hb dX10_role_20 (by decide) ?_
            refine lv_icmp_le (tgt := 34) hx hb dX10_role_21 (by decide) (fun c_8 => ?_) (fun c_8 => ?_)
            · refine lv_aload_n hx hb dX10_role_34 rfl (lv_at hl 0 rfl) ?_
              have hPc := hP.sub (ws' := [(h0, .inr (10, [.ref r0, .ref d0, .ref g0, .ref g1, .ref y1, .ref s1, .ref l1, .ref w1])), (g0, .inr (4, [.ref f0, .ref n0, .ref y0, .int 0, .int 0, .int 0, .int 45]))]) [0, 10] rfl
              have hKc := hK.sub (tys' := []) [] rfl
              refine va_callv (va_runV (As := []) (rest := []) ⟨hx, hb, hml, hown, hq⟩ (c_requireNotBegun l hst tE adK adV dC dI h0 r0 d0 g0 g1 y1 s1 l1 w1 f0 n0 y0 H.size) (tcV 0 hq q_769 q_1 q_766 q_768 qp_11 rfl rfl (by decide +kernel) ⟨Nat.le_of_ble_eq_true rfl, Nat.le_of_ble_eq_true rfl⟩) (preR.V (va_recv hK hP (ci := 10) (q0 := 0) rfl rfl) (preR.of hPc hKc ham hS hA)) rfl rfl hl.1 rfl (lv_room (Nat.le_of_ble_eq_true rfl)) dX10_role_35 ⟨Nat.le_of_ble_eq_true rfl, Nat.le_of_ble_eq_true rfl⟩) hS (fun q _ h => hA q (Nat.le_trans hS.1 h)) (fun q h => hA q (Nat.le_trans hS.1 h)) (fun u t H1 locs ht hvm hw hB hz1 hk1 hS => ?_)
              have hP : va_P (dC, dI) cls [(h0, .inr (10, [.ref r0, .ref d0, .ref g0, .ref g1, .ref y1, .ref s1, .ref l1, .ref w1])), (r0, .inr (7, [.ref a1, .ref a2, .ref a3, .ref a4, .ref a5, .ref a6, .ref a7, .int 0])), (a1, .inl (k1, 8, .inl (fun _ => 0))), (a2, .inl (k2, 8, .inl (fun _ => 0))), (a3, .inl (k3, 8, .inl (fun _ => 0))), (a4, .inl (k4, 8, .inl (fun _ => 0))), (a5, .inl (k5, 8, .inl (fun _ => 0))), (a6, .inl (k6, 8, .inl (fun _ => 0))), (a7, .inl (k7, 8, .inl (fun _ => 0))), (d0, .inr (2, [.ref b1, .ref b2, .ref b3, .int 0, .int (-1), .int (-1)])), (g0, .inr (4, [.ref f0, .ref n0, .ref y0, .int 0, .int 0, .int 0, .int 45])), (f0, .inr (3, [.ref r0, .ref d0, .ref z1, .ref z2, .ref z3, .ref z4, .ref z5, .int 0, .int 0]))] H1 := ro_keep hP hk1
              generalize H1 = H at hP hS ⊢
              refine W.widen (k := 0) (n := 0) (Nat.le_of_ble_eq_true rfl) (Nat.le_of_ble_eq_true rfl) ?_
              refine lv_aload_n hx hb dX10_role_38 rfl (lv_at hl 0 rfl) ?_
              refine va_get (D := (dC, dI)) (ci := 10) (v := .ref r0) (C := RX10) (T := TX10) (N := 8) hx hb hq i_X10 hown hK hP 0 rfl rfl 0 (by decide) (hq _ q_326) (fun _ h9 => h9) rfl dX10_role_39 ?_
              refine va_getN (D := (dC, dI)) (host := "NightfallVillage") (ci := 7) (v := .int 0) (C := RX7) (T := TX7) (N := 8) hx hb hq i_X7 hown hK hP 1 rfl rfl 7 (by decide) (hq _ q_61) (fun _ h9 => h9) rfl dX10_role_42 ?_
              refine lv_bipush (v := 8) hx hb dX10_role_45 (by decide) ?_
              refine lv_icmp_lt (tgt := 60) hx hb dX10_role_47 (by decide) (fun c_10 => ?_) (fun c_10 => ?_)
              · refine lv_aload_n hx hb dX10_role_60 rfl (lv_at hl 0 rfl) ?_
                refine va_get (D := (dC, dI)) (ci := 10) (v := .ref r0) (C := RX10) (T := TX10) (N := 8) hx hb hq i_X10 hown hK hP 0 rfl rfl 0 (by decide) (hq _ q_326) (fun _ h9 => h9) rfl dX10_role_61 ?_
                refine lv_iload_n hx hb dX10_role_64 rfl (lv_at hl 1 rfl) ?_
                refine lv_iload_n hx hb dX10_role_65 rfl (lv_at hl 2 rfl) ?_
                refine lv_iload_n hx hb dX10_role_66 rfl (lv_at hl 3 rfl) ?_
                refine lv_iload hx hb dX10_role_67 (lv_at hl 4 rfl) ?_
                refine lv_iload hx hb dX10_role_69 (lv_at hl 5 rfl) ?_
                refine lv_iload hx hb dX10_role_71 (lv_at hl 6 rfl) ?_
                have hPc := hP.sub (ws' := [(r0, .inr (7, [.ref a1, .ref a2, .ref a3, .ref a4, .ref a5, .ref a6, .ref a7, .int 0])), (a1, .inl (k1, 8, .inl (fun _ => 0))), (a2, .inl (k2, 8, .inl (fun _ => 0))), (a3, .inl (k3, 8, .inl (fun _ => 0))), (a4, .inl (k4, 8, .inl (fun _ => 0))), (a5, .inl (k5, 8, .inl (fun _ => 0))), (a6, .inl (k6, 8, .inl (fun _ => 0))), (a7, .inl (k7, 8, .inl (fun _ => 0)))]) [1, 2, 3, 4, 5, 6, 7, 8] rfl
                have hKc := hK.sub (tys' := [(k1, .char), (k2, .char), (k3, .int), (k4, .boolean), (k5, .boolean), (k6, .boolean), (k7, .int)]) [0, 1, 2, 3, 4, 5, 6] rfl
                have hDc := hD.sub (ws' := [(r0, .inr (7, [.ref a1, .ref a2, .ref a3, .ref a4, .ref a5, .ref a6, .ref a7, .int 0])), (a1, .inl (k1, 8, .inl (fun _ => 0))), (a2, .inl (k2, 8, .inl (fun _ => 0))), (a3, .inl (k3, 8, .inl (fun _ => 0))), (a4, .inl (k4, 8, .inl (fun _ => 0))), (a5, .inl (k5, 8, .inl (fun _ => 0))), (a6, .inl (k6, 8, .inl (fun _ => 0))), (a7, .inl (k7, 8, .inl (fun _ => 0)))]) [1, 2, 3, 4, 5, 6, 7, 8] (by decide) rfl
                have hFc := va_free (wc := [(r0, .inr (7, [.ref a1, .ref a2, .ref a3, .ref a4, .ref a5, .ref a6, .ref a7, .int 0])), (a1, .inl (k1, 8, .inl (fun _ => 0))), (a2, .inl (k2, 8, .inl (fun _ => 0))), (a3, .inl (k3, 8, .inl (fun _ => 0))), (a4, .inl (k4, 8, .inl (fun _ => 0))), (a5, .inl (k5, 8, .inl (fun _ => 0))), (a6, .inl (k6, 8, .inl (fun _ => 0))), (a7, .inl (k7, 8, .inl (fun _ => 0)))]) hD hS hA [1, 2, 3, 4, 5, 6, 7, 8] rfl
                refine va_calli (va_runV (As := [.int p1, .int p2, .int p3, .int p4, .int p5, .int p6]) (rest := []) ⟨hx, hb, hml, hown, hq⟩ (c_Roles_add l hst tE adK adV dC dI r0 a1 a2 a3 a4 a5 a6 a7 k1 k2 k3 k4 k5 k6 k7 p1 p2 p3 p4 p5 p6 H.size) (tcV 6 hq q_805 q_2 q_802 q_803 q_804 rfl rfl (by decide +kernel) ⟨Nat.le_of_ble_eq_true rfl, Nat.le_of_ble_eq_true rfl⟩) (pre.V (va_recv hK hP (ci := 7) (q0 := 1) rfl rfl) (pre.of hPc hDc hKc ham hS hFc)) rfl rfl hl.1 rfl (lv_room (Nat.le_of_ble_eq_true rfl)) dX10_role_73 ⟨Nat.le_of_ble_eq_true rfl, Nat.le_of_ble_eq_true rfl⟩) hS (fun q _ h => hFc q h) hFc (fun r_11 u t H1 locs ht hvm hw hB hz1 hk1 hS => ?_)
                obtain ⟨hP, hD⟩ := va_join (wr := [(h0, .inr (10, [.ref r0, .ref d0, .ref g0, .ref g1, .ref y1, .ref s1, .ref l1, .ref w1])), (d0, .inr (2, [.ref b1, .ref b2, .ref b3, .int 0, .int (-1), .int (-1)])), (g0, .inr (4, [.ref f0, .ref n0, .ref y0, .int 0, .int 0, .int 0, .int 45])), (f0, .inr (3, [.ref r0, .ref d0, .ref z1, .ref z2, .ref z3, .ref z4, .ref z5, .int 0, .int 0]))]) (w1 := []) (wc := [(r0, .inr (7, [.ref a1, .ref a2, .ref a3, .ref a4, .ref a5, .ref a6, .ref a7, .int 0])), (a1, .inl (k1, 8, .inl (fun _ => 0))), (a2, .inl (k2, 8, .inl (fun _ => 0))), (a3, .inl (k3, 8, .inl (fun _ => 0))), (a4, .inl (k4, 8, .inl (fun _ => 0))), (a5, .inl (k5, 8, .inl (fun _ => 0))), (a6, .inl (k6, 8, .inl (fun _ => 0))), (a7, .inl (k7, 8, .inl (fun _ => 0)))]) hP hD [1, 2, 3, 4, 5, 6, 7, 8] [0, 9, 10, 11] rfl rfl (by decide) (by decide) hk1 hFc (fun k q h => by simp at h) ⟨fun i j p q h => by simp at h, fun k q h => by simp at h⟩
                generalize H1 = H at hP hS ⊢
                have hP : va_P (dC, dI) cls [(h0, .inr (10, [.ref r0, .ref d0, .ref g0, .ref g1, .ref y1, .ref s1, .ref l1, .ref w1])), (d0, .inr (2, [.ref b1, .ref b2, .ref b3, .int 0, .int (-1), .int (-1)])), (g0, .inr (4, [.ref f0, .ref n0, .ref y0, .int 0, .int 0, .int 0, .int 45])), (f0, .inr (3, [.ref r0, .ref d0, .ref z1, .ref z2, .ref z3, .ref z4, .ref z5, .int 0, .int 0]))] H := hP
                have hD : va_D A [(h0, .inr (10, [.ref r0, .ref d0, .ref g0, .ref g1, .ref y1, .ref s1, .ref l1, .ref w1])), (d0, .inr (2, [.ref b1, .ref b2, .ref b3, .int 0, .int (-1), .int (-1)])), (g0, .inr (4, [.ref f0, .ref n0, .ref y0, .int 0, .int 0, .int 0, .int 45])), (f0, .inr (3, [.ref r0, .ref d0, .ref z1, .ref z2, .ref z3, .ref z4, .ref z5, .int 0, .int 0]))] := hD
                have hK : va_K (dC, dI) cls [(k1, .char), (k2, .char), (k3, .int), (k4, .boolean), (k5, .boolean), (k6, .boolean), (k7, .int)] s := hK
                refine W.widen (k := 0) (n := 0) (Nat.le_of_ble_eq_true rfl) (Nat.le_of_ble_eq_true rfl) ?_
                have hw : r_11 = 0 := hw
                subst hw
                refine W.widen (k := 0) (n := 0) (Nat.le_of_ble_eq_true rfl) (Nat.le_of_ble_eq_true rfl) ?_
                exact W.iret (v := 0) hx hb hr (fun t ht hW => ⟨⟨0, (), rfl, rfl, trivial⟩, hS.F ht⟩) hS.2.2 dX10_role_76
              · exact absurd c_10 (by decide)
            · exact absurd (Int32.not_le.mp c_8) hok.2.2.2
      · exact absurd hok.2.1 hc_5
  · exact absurd hok.1 hc_2
theorem dX10_role_24 : decode cX10_role 24 = .ok (.new 76, 3) := by decide +kernel
theorem at_X10_IllegalArgumentException_80_76 : ∀ w ∈ vx_atS RX10 80 "java/lang/IllegalArgumentException" ["java/lang/RuntimeException", "java/lang/Exception"], w ∈ tw := fun w hw => thr_in (List.all_eq_true.mp (show (vx_atS RX10 80 "java/lang/IllegalArgumentException" ["java/lang/RuntimeException", "java/lang/Exception"]).all (fun w => decide (w ∈ thr_all)) = true by decide +kernel) w hw)
theorem at_X10_IllegalArgumentException_80_76_g : ∀ w ∈ Cond.classLink RX10 76 "java/lang/IllegalArgumentException" :: Cond.initialized "java/lang/IllegalArgumentException" :: vx_atS RX10 80 "java/lang/IllegalArgumentException" ["java/lang/RuntimeException", "java/lang/Exception"], vx_ot w = true := fun w hw => List.all_eq_true.mp (show (Cond.classLink RX10 76 "java/lang/IllegalArgumentException" :: Cond.initialized "java/lang/IllegalArgumentException" :: vx_atS RX10 80 "java/lang/IllegalArgumentException" ["java/lang/RuntimeException", "java/lang/Exception"]).all vx_ot = true by decide +kernel) w hw
theorem sr_739 : Cond.stringRef "NightfallVillage" 78 "no such side, act or weight" ∈ tables_1 := List.mem_of_getElem? (i := 739) (by decide +kernel)
theorem q_696 : (Cond.classLink "NightfallVillage" 76 "java/lang/IllegalArgumentException") ∈ tw := tw_in (i := 696) (by decide +kernel) (by decide +kernel)
theorem q_20 : (Cond.initialized "java/lang/IllegalArgumentException") ∈ tw := tw_in (i := 20) (by decide +kernel) (by decide +kernel)
theorem dX10_role_27 : decode cX10_role 27 = .ok (.dup, 1) := by decide +kernel
theorem dX10_role_28 : decode cX10_role 28 = .ok (.ldc 78, 2) := by decide +kernel
theorem dX10_role_30 : decode cX10_role 30 = .ok (.invokespecial 80, 3) := by decide +kernel
theorem dX10_role_33 : decode cX10_role 33 = .ok (.athrow, 1) := by decide +kernel
set_option maxHeartbeats 4000000 in
set_option maxRecDepth 100000 in
theorem c_X_role_no (l : Launch) (hst : l.stackTraces = false) (tE : Nat) (adK adV : Nat → Nat) (dC : Nat → ClassId) (dI : Nat → Nat → Nat) (h0 : Nat) (r0 : Nat) (d0 : Nat) (g0 : Nat) (g1 : Nat) (y1 : Nat) (s1 : Nat) (l1 : Nat) (w1 : Nat) (a1 : Nat) (a2 : Nat) (a3 : Nat) (a4 : Nat) (a5 : Nat) (a6 : Nat) (a7 : Nat) (b1 : Nat) (b2 : Nat) (b3 : Nat) (f0 : Nat) (n0 : Nat) (y0 : Nat) (z1 : Nat) (z2 : Nat) (z3 : Nat) (z4 : Nat) (z5 : Nat) (p1 : Int32) (p2 : Int32) (p3 : Int32) (p4 : Int32) (p5 : Int32) (p6 : Int32) (hok : ¬ okR p1 p2 p3) (sz : Nat) : vx_Met l yX10_role (Cond.code yX10_role cX10_role 7 (some .int) :: tw) ({ frames := 6, cells := 1, slots := 6, locals := 82 }) (va_Pc [.ref h0, .int p1, .int p2, .int p3, .int p4, .int p5, .int p6] (preR tE adK adV (dC, dI) [(h0, .inr (10, [.ref r0, .ref d0, .ref g0, .ref g1, .ref y1, .ref s1, .ref l1, .ref w1])), (r0, .inr (7, [.ref a1, .ref a2, .ref a3, .ref a4, .ref a5, .ref a6, .ref a7, .int 0])), (d0, .inr (2, [.ref b1, .ref b2, .ref b3, .int 0, .int (-1), .int (-1)])), (g0, .inr (4, [.ref f0, .ref n0, .ref y0, .int 0, .int 0, .int 0, .int 45])), (f0, .inr (3, [.ref r0, .ref d0, .ref z1, .ref z2, .ref z3, .ref z4, .ref z5, .int 0, .int 0]))] [] sz)) (va_Qi (fun (r : Int32) (_ : Unit) => False) (fun (_ : Unit) (_ : State) => True) (fun q : Nat => sz ≤ q)) (vx_X (fun _ : Unit => True) (fun E (_ : Unit) (_ : State) => E = "java/lang/IllegalArgumentException") (fun q : Nat => sz ≤ q)) 1 6 (fun q : Nat => sz ≤ q) := by
  refine vx_ofW (cc := cX10_role) (maxL := 7) (ret := (some .int)) (by decide) rfl ?_
  intro p e s m args below meth c s₁ B hml hte hv
  obtain ⟨rfl, hsz, hP, hK, ham⟩ := hv
  have hx := B.exec
  have hb := B.bytes
  have hr := B.returns
  have hts := atoms_spec B.pre
  have hq : ∀ w ∈ tw, w.before _ s = true := fun w h => hts w (List.mem_cons_of_mem _ h)
  have hown : s.vm.findClass RX10 = some m.cls := findClass_of_methodNamed B.named
  have hlocks := B.notSynchronized
  subst hsz
  generalize hAe : (fun q : Nat => s.heap.size ≤ q) = A at ham ⊢
  have hA : ∀ q : Nat, s.heap.size ≤ q → A q := fun q h => by rw [← hAe]; exact h
  have hS : va_S A s.heap s.heap [] := va_S.rf
  have hP : va_P (dC, dI) cls [(h0, .inr (10, [.ref r0, .ref d0, .ref g0, .ref g1, .ref y1, .ref s1, .ref l1, .ref w1])), (r0, .inr (7, [.ref a1, .ref a2, .ref a3, .ref a4, .ref a5, .ref a6, .ref a7, .int 0])), (d0, .inr (2, [.ref b1, .ref b2, .ref b3, .int 0, .int (-1), .int (-1)])), (g0, .inr (4, [.ref f0, .ref n0, .ref y0, .int 0, .int 0, .int 0, .int 45])), (f0, .inr (3, [.ref r0, .ref d0, .ref z1, .ref z2, .ref z3, .ref z4, .ref z5, .int 0, .int 0]))] s.heap := hP
  have hl := lv_entry ([.ref h0, .int p1, .int p2, .int p3, .int p4, .int p5, .int p6]) (n := 7) (Nat.le_of_ble_eq_true rfl)
  rw [lg_entry_eq]
  generalize (lg_sl ([.ref h0, .int p1, .int p2, .int p3, .int p4, .int p5, .int p6]) ++ List.replicate (7 - (lg_sl ([.ref h0, .int p1, .int p2, .int p3, .int p4, .int p5, .int p6])).length) Slot.unset).toArray = ls at hl ⊢
  have hl : lv_has ls 7 [(0, .ref h0), (1, .int p1), (2, .int p2), (3, .int p3), (4, .int p4), (5, .int p5), (6, .int p6)] := hl
  refine lv_iload_n hx hb dX10_role_0 rfl (lv_at hl 1 rfl) ?_
  have hPc := hP.sub (ws' := []) [] rfl
  have hKc := hK.sub (tys' := []) [] rfl
  refine va_calli (va_runS (As := [.int p1]) (rest := []) ⟨hx, hb, hml, hown, hq⟩ (c_isSide l hst tE adK adV dC dI p1 s.heap.size) (tcS 1 hq q_692 q_1 q_690 q_691 rfl rfl (by decide +kernel) ⟨Nat.le_of_ble_eq_true rfl, Nat.le_of_ble_eq_true rfl⟩) (preR.S (preR.of hPc hKc ham hS hA)) rfl rfl hl.1 rfl (lv_room (Nat.le_of_ble_eq_true rfl)) dX10_role_1 ⟨Nat.le_of_ble_eq_true rfl, Nat.le_of_ble_eq_true rfl⟩) hS (fun q _ h => hA q (Nat.le_trans hS.1 h)) (fun q h => hA q (Nat.le_trans hS.1 h)) (fun r_1 u t H1 locs ht hvm hw hB hz1 hk1 hS => ?_)
  have hP : va_P (dC, dI) cls [(h0, .inr (10, [.ref r0, .ref d0, .ref g0, .ref g1, .ref y1, .ref s1, .ref l1, .ref w1])), (r0, .inr (7, [.ref a1, .ref a2, .ref a3, .ref a4, .ref a5, .ref a6, .ref a7, .int 0])), (d0, .inr (2, [.ref b1, .ref b2, .ref b3, .int 0, .int (-1), .int (-1)])), (g0, .inr (4, [.ref f0, .ref n0, .ref y0, .int 0, .int 0, .int 0, .int 45])), (f0, .inr (3, [.ref r0, .ref d0, .ref z1, .ref z2, .ref z3, .ref z4, .ref z5, .int 0, .int 0]))] H1 := ro_keep hP hk1
  generalize H1 = H at hP hS ⊢
  refine W.widen (k := 0) (n := 0) (Nat.le_of_ble_eq_true rfl) (Nat.le_of_ble_eq_true rfl) ?_
  rcases hw with ⟨er_hc_2, hc_2⟩ | ⟨er_hc_2, hc_2⟩
  · subst er_hc_2
    refine lv_if_eq (tgt := 24) hx hb dX10_role_4 (by decide) (fun c_3 => ?_) (fun c_3 => ?_)
    · exact absurd c_3 (by decide)
    · refine lv_iload_n hx hb dX10_role_7 rfl (lv_at hl 2 rfl) ?_
      have hPc := hP.sub (ws' := []) [] rfl
      have hKc := hK.sub (tys' := []) [] rfl
      refine va_calli (va_runS (As := [.int p2]) (rest := []) ⟨hx, hb, hml, hown, hq⟩ (c_isAct l hst tE adK adV dC dI p2 H.size) (tcS 1 hq q_695 q_1 q_693 q_694 rfl rfl (by decide +kernel) ⟨Nat.le_of_ble_eq_true rfl, Nat.le_of_ble_eq_true rfl⟩) (preR.S (preR.of hPc hKc ham hS hA)) rfl rfl hl.1 rfl (lv_room (Nat.le_of_ble_eq_true rfl)) dX10_role_8 ⟨Nat.le_of_ble_eq_true rfl, Nat.le_of_ble_eq_true rfl⟩) hS (fun q _ h => hA q (Nat.le_trans hS.1 h)) (fun q h => hA q (Nat.le_trans hS.1 h)) (fun r_4 u t H1 locs ht hvm hw hB hz1 hk1 hS => ?_)
      have hP : va_P (dC, dI) cls [(h0, .inr (10, [.ref r0, .ref d0, .ref g0, .ref g1, .ref y1, .ref s1, .ref l1, .ref w1])), (r0, .inr (7, [.ref a1, .ref a2, .ref a3, .ref a4, .ref a5, .ref a6, .ref a7, .int 0])), (d0, .inr (2, [.ref b1, .ref b2, .ref b3, .int 0, .int (-1), .int (-1)])), (g0, .inr (4, [.ref f0, .ref n0, .ref y0, .int 0, .int 0, .int 0, .int 45])), (f0, .inr (3, [.ref r0, .ref d0, .ref z1, .ref z2, .ref z3, .ref z4, .ref z5, .int 0, .int 0]))] H1 := ro_keep hP hk1
      generalize H1 = H at hP hS ⊢
      refine W.widen (k := 0) (n := 0) (Nat.le_of_ble_eq_true rfl) (Nat.le_of_ble_eq_true rfl) ?_
      rcases hw with ⟨er_hc_5, hc_5⟩ | ⟨er_hc_5, hc_5⟩
      · subst er_hc_5
        refine lv_if_eq (tgt := 24) hx hb dX10_role_11 (by decide) (fun c_6 => ?_) (fun c_6 => ?_)
        · exact absurd c_6 (by decide)
        · refine lv_iload_n hx hb dX10_role_14 rfl (lv_at hl 3 rfl) ?_
          refine lv_iconst (v := 1) hx hb dX10_role_15 (by decide) ?_
          refine lv_icmp_lt (tgt := 24) hx hb dX10_role_16 (by decide) (fun c_7 => ?_) (fun c_7 => ?_)
          · obtain ⟨sa_8, hsa_8⟩ := ham.2.1 _ _ _ sr_739
            exact vx_throwS hx hb hst (own := RX10) (cls := "java/lang/IllegalArgumentException") (names := ["java/lang/RuntimeException", "java/lang/Exception"]) hown (by decide) (by decide) (hq _ q_696) (hq _ q_20) hsa_8 (fun w9 h9 => hq _ (at_X10_IllegalArgumentException_80_76 w9 h9)) at_X10_IllegalArgumentException_80_76_g ham.1.1 ham.1.2 hS (hl.1.trans hml.symm) dX10_role_24 dX10_role_27 dX10_role_28 dX10_role_30 dX10_role_33 (fun x9 h9 => (hte x9 h9).elim) (Nat.le_of_ble_eq_true rfl) (Nat.le_of_ble_eq_true rfl) (Nat.le_of_ble_eq_true rfl) (Nat.le_of_ble_eq_true rfl) hlocks (vx_end hS) hS.2.2 (Nat.le_of_ble_eq_true rfl) (Nat.le_of_ble_eq_true rfl)
          · refine lv_iload_n hx hb dX10_role_19 rfl (lv_at hl 3 rfl) ?_
            refine lv_iconst (v := 2) hx hb dX10_role_20 (by decide) ?_
            refine lv_icmp_le (tgt := 34) hx hb dX10_role_21 (by decide) (fun c_9 => ?_) (fun c_9 => ?_)
            · exact absurd ⟨hc_2, hc_5, c_7, Int32.not_lt.mpr c_9⟩ hok
            · obtain ⟨sa_10, hsa_10⟩ := ham.2.1 _ _ _ sr_739
              exact vx_throwS hx hb hst (own := RX10) (cls := "java/lang/IllegalArgumentException") (names := ["java/lang/RuntimeException", "java/lang/Exception"]) hown (by decide) (by decide) (hq _ q_696) (hq _ q_20) hsa_10 (fun w9 h9 => hq _ (at_X10_IllegalArgumentException_80_76 w9 h9)) at_X10_IllegalArgumentException_80_76_g ham.1.1 ham.1.2 hS (hl.1.trans hml.symm) dX10_role_24 dX10_role_27 dX10_role_28 dX10_role_30 dX10_role_33 (fun x9 h9 => (hte x9 h9).elim) (Nat.le_of_ble_eq_true rfl) (Nat.le_of_ble_eq_true rfl) (Nat.le_of_ble_eq_true rfl) (Nat.le_of_ble_eq_true rfl) hlocks (vx_end hS) hS.2.2 (Nat.le_of_ble_eq_true rfl) (Nat.le_of_ble_eq_true rfl)
      · subst er_hc_5
        refine lv_if_eq (tgt := 24) hx hb dX10_role_11 (by decide) (fun c_11 => ?_) (fun c_11 => ?_)
        · obtain ⟨sa_12, hsa_12⟩ := ham.2.1 _ _ _ sr_739
          exact vx_throwS hx hb hst (own := RX10) (cls := "java/lang/IllegalArgumentException") (names := ["java/lang/RuntimeException", "java/lang/Exception"]) hown (by decide) (by decide) (hq _ q_696) (hq _ q_20) hsa_12 (fun w9 h9 => hq _ (at_X10_IllegalArgumentException_80_76 w9 h9)) at_X10_IllegalArgumentException_80_76_g ham.1.1 ham.1.2 hS (hl.1.trans hml.symm) dX10_role_24 dX10_role_27 dX10_role_28 dX10_role_30 dX10_role_33 (fun x9 h9 => (hte x9 h9).elim) (Nat.le_of_ble_eq_true rfl) (Nat.le_of_ble_eq_true rfl) (Nat.le_of_ble_eq_true rfl) (Nat.le_of_ble_eq_true rfl) hlocks (vx_end hS) hS.2.2 (Nat.le_of_ble_eq_true rfl) (Nat.le_of_ble_eq_true rfl)
        · exact absurd c_11 (by decide)
  · subst er_hc_2
    refine lv_if_eq (tgt := 24) hx hb dX10_role_4 (by decide) (fun c_13 => ?_) (fun c_13 => ?_)
    · obtain ⟨sa_14, hsa_14⟩ := ham.2.1 _ _ _ sr_739
      exact vx_throwS hx hb hst (own := RX10) (cls := "java/lang/IllegalArgumentException") (names := ["java/lang/RuntimeException", "java/lang/Exception"]) hown (by decide) (by decide) (hq _ q_696) (hq _ q_20) hsa_14 (fun w9 h9 => hq _ (at_X10_IllegalArgumentException_80_76 w9 h9)) at_X10_IllegalArgumentException_80_76_g ham.1.1 ham.1.2 hS (hl.1.trans hml.symm) dX10_role_24 dX10_role_27 dX10_role_28 dX10_role_30 dX10_role_33 (fun x9 h9 => (hte x9 h9).elim) (Nat.le_of_ble_eq_true rfl) (Nat.le_of_ble_eq_true rfl) (Nat.le_of_ble_eq_true rfl) (Nat.le_of_ble_eq_true rfl) hlocks (vx_end hS) hS.2.2 (Nat.le_of_ble_eq_true rfl) (Nat.le_of_ble_eq_true rfl)
    · exact absurd c_13 (by decide)
abbrev cX3_countLiving : ByteArray := prog_5_method_13_code
def yX3_countLiving : MethodName := ⟨RX3, "countLiving", "(C)I"⟩
theorem dX3_countLiving_0 : decode cX3_countLiving 0 = .ok (.iconst 0, 1) := by decide +kernel
theorem dX3_countLiving_1 : decode cX3_countLiving 1 = .ok (.istore_n 2, 1) := by decide +kernel
theorem dX3_countLiving_2 : decode cX3_countLiving 2 = .ok (.iconst 0, 1) := by decide +kernel
theorem dX3_countLiving_3 : decode cX3_countLiving 3 = .ok (.istore_n 3, 1) := by decide +kernel
theorem dX3_countLiving_4 : decode cX3_countLiving 4 = .ok (.iload_n 3, 1) := by decide +kernel
theorem dX3_countLiving_5 : decode cX3_countLiving 5 = .ok (.aload_n 0, 1) := by decide +kernel
theorem dX3_countLiving_6 : decode cX3_countLiving 6 = .ok (.getfield 33, 3) := by decide +kernel
theorem dX3_countLiving_9 : decode cX3_countLiving 9 = .ok (.getfield 83, 3) := by decide +kernel
theorem q_95 : (Cond.fieldLinkNest "NightfallVillage$Folk" 83 "NightfallVillage$Deal" "seats" "I" "NightfallVillage") ∈ tw := tw_in (i := 95) (by decide +kernel) (by decide +kernel)
theorem dX3_countLiving_12 : decode cX3_countLiving 12 = .ok (.if_icmp .ge 35, 3) := by decide +kernel
theorem dX3_countLiving_47 : decode cX3_countLiving 47 = .ok (.iload_n 2, 1) := by decide +kernel
theorem dX3_countLiving_48 : decode cX3_countLiving 48 = .ok (.ireturn, 1) := by decide +kernel
set_option maxHeartbeats 4000000 in
set_option maxRecDepth 100000 in
theorem c_countLiving (l : Launch) (hst : l.stackTraces = false) (tE : Nat) (adK adV : Nat → Nat) (dC : Nat → ClassId) (dI : Nat → Nat → Nat) (r0 : Nat) (d0 : Nat) (b1 : Nat) (b2 : Nat) (b3 : Nat) (f0 : Nat) (z1 : Nat) (z2 : Nat) (z3 : Nat) (z4 : Nat) (z5 : Nat) (p1 : Int32) (sz : Nat) : Met l yX3_countLiving (Cond.code yX3_countLiving cX3_countLiving 4 (some .int) :: tw) ({ frames := 0, cells := 0, slots := 0, locals := 0 }) (va_Pc [.ref f0, .int p1] (preR tE adK adV (dC, dI) [(d0, .inr (2, [.ref b1, .ref b2, .ref b3, .int 0, .int (-1), .int (-1)])), (f0, .inr (3, [.ref r0, .ref d0, .ref z1, .ref z2, .ref z3, .ref z4, .ref z5, .int 0, .int 0]))] [] sz)) (va_Qi (fun (r : Int32) (_ : Unit) => r = 0) (fun (_ : Unit) (_ : State) => True) (fun q : Nat => sz ≤ q)) 0 0 (fun q : Nat => sz ≤ q) := by
  refine Met.ofW (cc := cX3_countLiving) (maxL := 4) (ret := (some .int)) (by decide) rfl ?_
  intro p e s m args below meth c s₁ B hml hv
  obtain ⟨rfl, hsz, hP, hK, ham⟩ := hv
  have hx := B.exec
  have hb := B.bytes
  have hr := B.returns
  have hts := atoms_spec B.pre
  have hq : ∀ w ∈ tw, w.before _ s = true := fun w h => hts w (List.mem_cons_of_mem _ h)
  have hown : s.vm.findClass RX3 = some m.cls := findClass_of_methodNamed B.named
  have hlocks := B.notSynchronized
  subst hsz
  generalize hAe : (fun q : Nat => s.heap.size ≤ q) = A at ham ⊢
  have hA : ∀ q : Nat, s.heap.size ≤ q → A q := fun q h => by rw [← hAe]; exact h
  have hS : va_S A s.heap s.heap [] := va_S.rf
  have hP : va_P (dC, dI) cls [(d0, .inr (2, [.ref b1, .ref b2, .ref b3, .int 0, .int (-1), .int (-1)])), (f0, .inr (3, [.ref r0, .ref d0, .ref z1, .ref z2, .ref z3, .ref z4, .ref z5, .int 0, .int 0]))] s.heap := hP
  have hl := lv_entry ([.ref f0, .int p1]) (n := 4) (Nat.le_of_ble_eq_true rfl)
  rw [lg_entry_eq]
  generalize (lg_sl ([.ref f0, .int p1]) ++ List.replicate (4 - (lg_sl ([.ref f0, .int p1])).length) Slot.unset).toArray = ls at hl ⊢
  have hl : lv_has ls 4 [(0, .ref f0), (1, .int p1)] := hl
  refine lv_iconst (v := 0) hx hb dX3_countLiving_0 (by decide) ?_
  refine lv_istore_n (lv' := [(2, .int 0), (0, .ref f0), (1, .int p1)]) hx hb dX3_countLiving_1 rfl hl (by decide) rfl (fun ls hl => ?_)
  refine lv_iconst (v := 0) hx hb dX3_countLiving_2 (by decide) ?_
  refine lv_istore_n (lv' := [(3, .int 0), (2, .int 0), (0, .ref f0), (1, .int p1)]) hx hb dX3_countLiving_3 rfl hl (by decide) rfl (fun ls hl => ?_)
  refine lv_iload_n hx hb dX3_countLiving_4 rfl (lv_at hl 0 rfl) ?_
  refine lv_aload_n hx hb dX3_countLiving_5 rfl (lv_at hl 2 rfl) ?_
  refine va_get (D := (dC, dI)) (ci := 3) (v := .ref d0) (C := RX3) (T := TX3) (N := 9) hx hb hq i_X3 hown hK hP 1 rfl rfl 1 (by decide) (hq _ q_124) (fun _ h9 => h9) rfl dX3_countLiving_6 ?_
  refine va_getN (D := (dC, dI)) (host := "NightfallVillage") (ci := 2) (v := .int 0) (C := RX2) (T := TX2) (N := 6) hx hb hq i_X2 hown hK hP 0 rfl rfl 3 (by decide) (hq _ q_95) (fun _ h9 => h9) rfl dX3_countLiving_9 ?_
  refine lv_icmp_ge (tgt := 47) hx hb dX3_countLiving_12 (by decide) (fun c_1 => ?_) (fun c_1 => ?_)
  · refine lv_iload_n hx hb dX3_countLiving_47 rfl (lv_at hl 1 rfl) ?_
    refine W.widen (k := 0) (n := 0) (Nat.le_of_ble_eq_true rfl) (Nat.le_of_ble_eq_true rfl) ?_
    exact W.iret (v := 0) hx hb hr (fun t ht hW => ⟨⟨0, (), rfl, rfl, trivial⟩, hS.F ht⟩) hS.2.2 dX3_countLiving_48
  · exact absurd c_1 (by decide)
abbrev cX10_living : ByteArray := prog_1_method_20_code
def yX10_living : MethodName := ⟨RX10, "living", "(C)I"⟩
theorem dX10_living_0 : decode cX10_living 0 = .ok (.iload_n 1, 1) := by decide +kernel
theorem dX10_living_1 : decode cX10_living 1 = .ok (.invokestatic 69, 3) := by decide +kernel
theorem dX10_living_4 : decode cX10_living 4 = .ok (.ifCond .ne 19, 3) := by decide +kernel
theorem dX10_living_23 : decode cX10_living 23 = .ok (.aload_n 0, 1) := by decide +kernel
theorem dX10_living_24 : decode cX10_living 24 = .ok (.getfield 28, 3) := by decide +kernel
theorem dX10_living_27 : decode cX10_living 27 = .ok (.getfield 58, 3) := by decide +kernel
theorem dX10_living_30 : decode cX10_living 30 = .ok (.iload_n 1, 1) := by decide +kernel
theorem dX10_living_31 : decode cX10_living 31 = .ok (.invokevirtual 255, 3) := by decide +kernel
theorem q_612 : (Cond.code yX3_countLiving cX3_countLiving 4 (some .int)) ∈ tw := tw_in (i := 612) (by decide +kernel) (by decide +kernel)
theorem q_1081 : (Cond.methodLink "NightfallVillage" 255 yX3_countLiving) ∈ tw := tw_in (i := 1081) (by decide +kernel) (by decide +kernel)
theorem q_610 : (Cond.instanceMethod yX3_countLiving) ∈ tw := tw_in (i := 610) (by decide +kernel) (by decide +kernel)
theorem q_611 : (Cond.selects "NightfallVillage$Folk" yX3_countLiving yX3_countLiving) ∈ tw := tw_in (i := 611) (by decide +kernel) (by decide +kernel)
theorem dX10_living_34 : decode cX10_living 34 = .ok (.ireturn, 1) := by decide +kernel
theorem dX10_living_7 : decode cX10_living 7 = .ok (.iload_n 1, 1) := by decide +kernel
theorem dX10_living_8 : decode cX10_living 8 = .ok (.bipush 42, 2) := by decide +kernel
theorem dX10_living_10 : decode cX10_living 10 = .ok (.if_icmp .eq 13, 3) := by decide +kernel
set_option maxHeartbeats 4000000 in
set_option maxRecDepth 100000 in
theorem c_X_living_ok (l : Launch) (hst : l.stackTraces = false) (tE : Nat) (adK adV : Nat → Nat) (dC : Nat → ClassId) (dI : Nat → Nat → Nat) (h0 : Nat) (r0 : Nat) (d0 : Nat) (g0 : Nat) (g1 : Nat) (y1 : Nat) (s1 : Nat) (l1 : Nat) (w1 : Nat) (a1 : Nat) (a2 : Nat) (a3 : Nat) (a4 : Nat) (a5 : Nat) (a6 : Nat) (a7 : Nat) (b1 : Nat) (b2 : Nat) (b3 : Nat) (f0 : Nat) (n0 : Nat) (y0 : Nat) (z1 : Nat) (z2 : Nat) (z3 : Nat) (z4 : Nat) (z5 : Nat) (p1 : Int32) (hok : okL p1) (sz : Nat) : Met l yX10_living (Cond.code yX10_living cX10_living 2 (some .int) :: tw) ({ frames := 1, cells := 0, slots := 0, locals := 23 }) (va_Pc [.ref h0, .int p1] (preR tE adK adV (dC, dI) [(h0, .inr (10, [.ref r0, .ref d0, .ref g0, .ref g1, .ref y1, .ref s1, .ref l1, .ref w1])), (r0, .inr (7, [.ref a1, .ref a2, .ref a3, .ref a4, .ref a5, .ref a6, .ref a7, .int 0])), (d0, .inr (2, [.ref b1, .ref b2, .ref b3, .int 0, .int (-1), .int (-1)])), (g0, .inr (4, [.ref f0, .ref n0, .ref y0, .int 0, .int 0, .int 0, .int 45])), (f0, .inr (3, [.ref r0, .ref d0, .ref z1, .ref z2, .ref z3, .ref z4, .ref z5, .int 0, .int 0]))] [] sz)) (va_Qi (fun (r : Int32) (_ : Unit) => r = 0) (fun (_ : Unit) (_ : State) => True) (fun q : Nat => sz ≤ q)) 0 0 (fun q : Nat => sz ≤ q) := by
  refine Met.ofW (cc := cX10_living) (maxL := 2) (ret := (some .int)) (by decide) rfl ?_
  intro p e s m args below meth c s₁ B hml hv
  obtain ⟨rfl, hsz, hP, hK, ham⟩ := hv
  have hx := B.exec
  have hb := B.bytes
  have hr := B.returns
  have hts := atoms_spec B.pre
  have hq : ∀ w ∈ tw, w.before _ s = true := fun w h => hts w (List.mem_cons_of_mem _ h)
  have hown : s.vm.findClass RX10 = some m.cls := findClass_of_methodNamed B.named
  have hlocks := B.notSynchronized
  subst hsz
  generalize hAe : (fun q : Nat => s.heap.size ≤ q) = A at ham ⊢
  have hA : ∀ q : Nat, s.heap.size ≤ q → A q := fun q h => by rw [← hAe]; exact h
  have hS : va_S A s.heap s.heap [] := va_S.rf
  have hP : va_P (dC, dI) cls [(h0, .inr (10, [.ref r0, .ref d0, .ref g0, .ref g1, .ref y1, .ref s1, .ref l1, .ref w1])), (r0, .inr (7, [.ref a1, .ref a2, .ref a3, .ref a4, .ref a5, .ref a6, .ref a7, .int 0])), (d0, .inr (2, [.ref b1, .ref b2, .ref b3, .int 0, .int (-1), .int (-1)])), (g0, .inr (4, [.ref f0, .ref n0, .ref y0, .int 0, .int 0, .int 0, .int 45])), (f0, .inr (3, [.ref r0, .ref d0, .ref z1, .ref z2, .ref z3, .ref z4, .ref z5, .int 0, .int 0]))] s.heap := hP
  have hl := lv_entry ([.ref h0, .int p1]) (n := 2) (Nat.le_of_ble_eq_true rfl)
  rw [lg_entry_eq]
  generalize (lg_sl ([.ref h0, .int p1]) ++ List.replicate (2 - (lg_sl ([.ref h0, .int p1])).length) Slot.unset).toArray = ls at hl ⊢
  have hl : lv_has ls 2 [(0, .ref h0), (1, .int p1)] := hl
  refine lv_iload_n hx hb dX10_living_0 rfl (lv_at hl 1 rfl) ?_
  have hPc := hP.sub (ws' := []) [] rfl
  have hKc := hK.sub (tys' := []) [] rfl
  refine va_calli (va_runS (As := [.int p1]) (rest := []) ⟨hx, hb, hml, hown, hq⟩ (c_isSide l hst tE adK adV dC dI p1 s.heap.size) (tcS 1 hq q_692 q_1 q_690 q_691 rfl rfl (by decide +kernel) ⟨Nat.le_of_ble_eq_true rfl, Nat.le_of_ble_eq_true rfl⟩) (preR.S (preR.of hPc hKc ham hS hA)) rfl rfl hl.1 rfl (lv_room (Nat.le_of_ble_eq_true rfl)) dX10_living_1 ⟨Nat.le_of_ble_eq_true rfl, Nat.le_of_ble_eq_true rfl⟩) hS (fun q _ h => hA q (Nat.le_trans hS.1 h)) (fun q h => hA q (Nat.le_trans hS.1 h)) (fun r_1 u t H1 locs ht hvm hw hB hz1 hk1 hS => ?_)
  have hP : va_P (dC, dI) cls [(h0, .inr (10, [.ref r0, .ref d0, .ref g0, .ref g1, .ref y1, .ref s1, .ref l1, .ref w1])), (r0, .inr (7, [.ref a1, .ref a2, .ref a3, .ref a4, .ref a5, .ref a6, .ref a7, .int 0])), (d0, .inr (2, [.ref b1, .ref b2, .ref b3, .int 0, .int (-1), .int (-1)])), (g0, .inr (4, [.ref f0, .ref n0, .ref y0, .int 0, .int 0, .int 0, .int 45])), (f0, .inr (3, [.ref r0, .ref d0, .ref z1, .ref z2, .ref z3, .ref z4, .ref z5, .int 0, .int 0]))] H1 := ro_keep hP hk1
  generalize H1 = H at hP hS ⊢
  refine W.widen (k := 0) (n := 0) (Nat.le_of_ble_eq_true rfl) (Nat.le_of_ble_eq_true rfl) ?_
  rcases hw with ⟨er_hc_2, hc_2⟩ | ⟨er_hc_2, hc_2⟩
  · subst er_hc_2
    refine lv_if_ne (tgt := 23) hx hb dX10_living_4 (by decide) (fun c_3 => ?_) (fun c_3 => ?_)
    · refine lv_aload_n hx hb dX10_living_23 rfl (lv_at hl 0 rfl) ?_
      refine va_get (D := (dC, dI)) (ci := 10) (v := .ref g0) (C := RX10) (T := TX10) (N := 8) hx hb hq i_X10 hown hK hP 0 rfl rfl 2 (by decide) (hq _ q_328) (fun _ h9 => h9) rfl dX10_living_24 ?_
      refine va_getN (D := (dC, dI)) (host := "NightfallVillage") (ci := 4) (v := .ref f0) (C := RX4) (T := TX4) (N := 7) hx hb hq i_X4 hown hK hP 3 rfl rfl 0 (by decide) (hq _ q_209) (fun _ h9 => h9) rfl dX10_living_27 ?_
      refine lv_iload_n hx hb dX10_living_30 rfl (lv_at hl 1 rfl) ?_
      have hPc := hP.sub (ws' := [(d0, .inr (2, [.ref b1, .ref b2, .ref b3, .int 0, .int (-1), .int (-1)])), (f0, .inr (3, [.ref r0, .ref d0, .ref z1, .ref z2, .ref z3, .ref z4, .ref z5, .int 0, .int 0]))]) [2, 4] rfl
      have hKc := hK.sub (tys' := []) [] rfl
      refine va_calli (va_runV (As := [.int p1]) (rest := []) ⟨hx, hb, hml, hown, hq⟩ (c_countLiving l hst tE adK adV dC dI r0 d0 b1 b2 b3 f0 z1 z2 z3 z4 z5 p1 H.size) (tcV 1 hq q_612 q_5 q_1081 q_610 q_611 rfl rfl (by decide +kernel) ⟨Nat.le_of_ble_eq_true rfl, Nat.le_of_ble_eq_true rfl⟩) (preR.V (va_recv hK hP (ci := 3) (q0 := 4) rfl rfl) (preR.of hPc hKc ham hS hA)) rfl rfl hl.1 rfl (lv_room (Nat.le_of_ble_eq_true rfl)) dX10_living_31 ⟨Nat.le_of_ble_eq_true rfl, Nat.le_of_ble_eq_true rfl⟩) hS (fun q _ h => hA q (Nat.le_trans hS.1 h)) (fun q h => hA q (Nat.le_trans hS.1 h)) (fun r_4 u t H1 locs ht hvm hw hB hz1 hk1 hS => ?_)
      have hP : va_P (dC, dI) cls [(h0, .inr (10, [.ref r0, .ref d0, .ref g0, .ref g1, .ref y1, .ref s1, .ref l1, .ref w1])), (r0, .inr (7, [.ref a1, .ref a2, .ref a3, .ref a4, .ref a5, .ref a6, .ref a7, .int 0])), (d0, .inr (2, [.ref b1, .ref b2, .ref b3, .int 0, .int (-1), .int (-1)])), (g0, .inr (4, [.ref f0, .ref n0, .ref y0, .int 0, .int 0, .int 0, .int 45])), (f0, .inr (3, [.ref r0, .ref d0, .ref z1, .ref z2, .ref z3, .ref z4, .ref z5, .int 0, .int 0]))] H1 := ro_keep hP hk1
      generalize H1 = H at hP hS ⊢
      refine W.widen (k := 0) (n := 0) (Nat.le_of_ble_eq_true rfl) (Nat.le_of_ble_eq_true rfl) ?_
      have hw : r_4 = 0 := hw
      subst hw
      refine W.widen (k := 0) (n := 0) (Nat.le_of_ble_eq_true rfl) (Nat.le_of_ble_eq_true rfl) ?_
      exact W.iret (v := 0) hx hb hr (fun t ht hW => ⟨⟨0, (), rfl, rfl, trivial⟩, hS.F ht⟩) hS.2.2 dX10_living_34
    · exact absurd c_3 (by decide)
  · subst er_hc_2
    refine lv_if_ne (tgt := 23) hx hb dX10_living_4 (by decide) (fun c_5 => ?_) (fun c_5 => ?_)
    · exact absurd c_5 (by decide)
    · refine lv_iload_n hx hb dX10_living_7 rfl (lv_at hl 1 rfl) ?_
      refine lv_bipush (v := 42) hx hb dX10_living_8 (by decide) ?_
      refine lv_icmp_eq (tgt := 23) hx hb dX10_living_10 (by decide) (fun c_6 => ?_) (fun c_6 => ?_)
      · refine lv_aload_n hx hb dX10_living_23 rfl (lv_at hl 0 rfl) ?_
        refine va_get (D := (dC, dI)) (ci := 10) (v := .ref g0) (C := RX10) (T := TX10) (N := 8) hx hb hq i_X10 hown hK hP 0 rfl rfl 2 (by decide) (hq _ q_328) (fun _ h9 => h9) rfl dX10_living_24 ?_
        refine va_getN (D := (dC, dI)) (host := "NightfallVillage") (ci := 4) (v := .ref f0) (C := RX4) (T := TX4) (N := 7) hx hb hq i_X4 hown hK hP 3 rfl rfl 0 (by decide) (hq _ q_209) (fun _ h9 => h9) rfl dX10_living_27 ?_
        refine lv_iload_n hx hb dX10_living_30 rfl (lv_at hl 1 rfl) ?_
        have hPc := hP.sub (ws' := [(d0, .inr (2, [.ref b1, .ref b2, .ref b3, .int 0, .int (-1), .int (-1)])), (f0, .inr (3, [.ref r0, .ref d0, .ref z1, .ref z2, .ref z3, .ref z4, .ref z5, .int 0, .int 0]))]) [2, 4] rfl
        have hKc := hK.sub (tys' := []) [] rfl
        refine va_calli (va_runV (As := [.int p1]) (rest := []) ⟨hx, hb, hml, hown, hq⟩ (c_countLiving l hst tE adK adV dC dI r0 d0 b1 b2 b3 f0 z1 z2 z3 z4 z5 p1 H.size) (tcV 1 hq q_612 q_5 q_1081 q_610 q_611 rfl rfl (by decide +kernel) ⟨Nat.le_of_ble_eq_true rfl, Nat.le_of_ble_eq_true rfl⟩) (preR.V (va_recv hK hP (ci := 3) (q0 := 4) rfl rfl) (preR.of hPc hKc ham hS hA)) rfl rfl hl.1 rfl (lv_room (Nat.le_of_ble_eq_true rfl)) dX10_living_31 ⟨Nat.le_of_ble_eq_true rfl, Nat.le_of_ble_eq_true rfl⟩) hS (fun q _ h => hA q (Nat.le_trans hS.1 h)) (fun q h => hA q (Nat.le_trans hS.1 h)) (fun r_7 u t H1 locs ht hvm hw hB hz1 hk1 hS => ?_)
        have hP : va_P (dC, dI) cls [(h0, .inr (10, [.ref r0, .ref d0, .ref g0, .ref g1, .ref y1, .ref s1, .ref l1, .ref w1])), (r0, .inr (7, [.ref a1, .ref a2, .ref a3, .ref a4, .ref a5, .ref a6, .ref a7, .int 0])), (d0, .inr (2, [.ref b1, .ref b2, .ref b3, .int 0, .int (-1), .int (-1)])), (g0, .inr (4, [.ref f0, .ref n0, .ref y0, .int 0, .int 0, .int 0, .int 45])), (f0, .inr (3, [.ref r0, .ref d0, .ref z1, .ref z2, .ref z3, .ref z4, .ref z5, .int 0, .int 0]))] H1 := ro_keep hP hk1
        generalize H1 = H at hP hS ⊢
        refine W.widen (k := 0) (n := 0) (Nat.le_of_ble_eq_true rfl) (Nat.le_of_ble_eq_true rfl) ?_
        have hw : r_7 = 0 := hw
        subst hw
        refine W.widen (k := 0) (n := 0) (Nat.le_of_ble_eq_true rfl) (Nat.le_of_ble_eq_true rfl) ?_
        exact W.iret (v := 0) hx hb hr (fun t ht hW => ⟨⟨0, (), rfl, rfl, trivial⟩, hS.F ht⟩) hS.2.2 dX10_living_34
      · exact (hok.elim hc_2 c_6).elim
theorem dX10_living_13 : decode cX10_living 13 = .ok (.new 76, 3) := by decide +kernel
theorem sr_1080 : Cond.stringRef "NightfallVillage" 253 "no such side" ∈ tables_1 := List.mem_of_getElem? (i := 1080) (by decide +kernel)
theorem dX10_living_16 : decode cX10_living 16 = .ok (.dup, 1) := by decide +kernel
theorem dX10_living_17 : decode cX10_living 17 = .ok (.ldc 253, 2) := by decide +kernel
theorem dX10_living_19 : decode cX10_living 19 = .ok (.invokespecial 80, 3) := by decide +kernel
theorem dX10_living_22 : decode cX10_living 22 = .ok (.athrow, 1) := by decide +kernel
set_option maxHeartbeats 4000000 in
set_option maxRecDepth 100000 in
theorem c_X_living_no (l : Launch) (hst : l.stackTraces = false) (tE : Nat) (adK adV : Nat → Nat) (dC : Nat → ClassId) (dI : Nat → Nat → Nat) (h0 : Nat) (r0 : Nat) (d0 : Nat) (g0 : Nat) (g1 : Nat) (y1 : Nat) (s1 : Nat) (l1 : Nat) (w1 : Nat) (a1 : Nat) (a2 : Nat) (a3 : Nat) (a4 : Nat) (a5 : Nat) (a6 : Nat) (a7 : Nat) (b1 : Nat) (b2 : Nat) (b3 : Nat) (f0 : Nat) (n0 : Nat) (y0 : Nat) (z1 : Nat) (z2 : Nat) (z3 : Nat) (z4 : Nat) (z5 : Nat) (p1 : Int32) (hok : ¬ okL p1) (sz : Nat) : vx_Met l yX10_living (Cond.code yX10_living cX10_living 2 (some .int) :: tw) ({ frames := 6, cells := 1, slots := 6, locals := 82 }) (va_Pc [.ref h0, .int p1] (preR tE adK adV (dC, dI) [(h0, .inr (10, [.ref r0, .ref d0, .ref g0, .ref g1, .ref y1, .ref s1, .ref l1, .ref w1])), (r0, .inr (7, [.ref a1, .ref a2, .ref a3, .ref a4, .ref a5, .ref a6, .ref a7, .int 0])), (d0, .inr (2, [.ref b1, .ref b2, .ref b3, .int 0, .int (-1), .int (-1)])), (g0, .inr (4, [.ref f0, .ref n0, .ref y0, .int 0, .int 0, .int 0, .int 45])), (f0, .inr (3, [.ref r0, .ref d0, .ref z1, .ref z2, .ref z3, .ref z4, .ref z5, .int 0, .int 0]))] [] sz)) (va_Qi (fun (r : Int32) (_ : Unit) => False) (fun (_ : Unit) (_ : State) => True) (fun q : Nat => sz ≤ q)) (vx_X (fun _ : Unit => True) (fun E (_ : Unit) (_ : State) => E = "java/lang/IllegalArgumentException") (fun q : Nat => sz ≤ q)) 1 6 (fun q : Nat => sz ≤ q) := by
  refine vx_ofW (cc := cX10_living) (maxL := 2) (ret := (some .int)) (by decide) rfl ?_
  intro p e s m args below meth c s₁ B hml hte hv
  obtain ⟨rfl, hsz, hP, hK, ham⟩ := hv
  have hx := B.exec
  have hb := B.bytes
  have hr := B.returns
  have hts := atoms_spec B.pre
  have hq : ∀ w ∈ tw, w.before _ s = true := fun w h => hts w (List.mem_cons_of_mem _ h)
  have hown : s.vm.findClass RX10 = some m.cls := findClass_of_methodNamed B.named
  have hlocks := B.notSynchronized
  subst hsz
  generalize hAe : (fun q : Nat => s.heap.size ≤ q) = A at ham ⊢
  have hA : ∀ q : Nat, s.heap.size ≤ q → A q := fun q h => by rw [← hAe]; exact h
  have hS : va_S A s.heap s.heap [] := va_S.rf
  have hP : va_P (dC, dI) cls [(h0, .inr (10, [.ref r0, .ref d0, .ref g0, .ref g1, .ref y1, .ref s1, .ref l1, .ref w1])), (r0, .inr (7, [.ref a1, .ref a2, .ref a3, .ref a4, .ref a5, .ref a6, .ref a7, .int 0])), (d0, .inr (2, [.ref b1, .ref b2, .ref b3, .int 0, .int (-1), .int (-1)])), (g0, .inr (4, [.ref f0, .ref n0, .ref y0, .int 0, .int 0, .int 0, .int 45])), (f0, .inr (3, [.ref r0, .ref d0, .ref z1, .ref z2, .ref z3, .ref z4, .ref z5, .int 0, .int 0]))] s.heap := hP
  have hl := lv_entry ([.ref h0, .int p1]) (n := 2) (Nat.le_of_ble_eq_true rfl)
  rw [lg_entry_eq]
  generalize (lg_sl ([.ref h0, .int p1]) ++ List.replicate (2 - (lg_sl ([.ref h0, .int p1])).length) Slot.unset).toArray = ls at hl ⊢
  have hl : lv_has ls 2 [(0, .ref h0), (1, .int p1)] := hl
  refine lv_iload_n hx hb dX10_living_0 rfl (lv_at hl 1 rfl) ?_
  have hPc := hP.sub (ws' := []) [] rfl
  have hKc := hK.sub (tys' := []) [] rfl
  refine va_calli (va_runS (As := [.int p1]) (rest := []) ⟨hx, hb, hml, hown, hq⟩ (c_isSide l hst tE adK adV dC dI p1 s.heap.size) (tcS 1 hq q_692 q_1 q_690 q_691 rfl rfl (by decide +kernel) ⟨Nat.le_of_ble_eq_true rfl, Nat.le_of_ble_eq_true rfl⟩) (preR.S (preR.of hPc hKc ham hS hA)) rfl rfl hl.1 rfl (lv_room (Nat.le_of_ble_eq_true rfl)) dX10_living_1 ⟨Nat.le_of_ble_eq_true rfl, Nat.le_of_ble_eq_true rfl⟩) hS (fun q _ h => hA q (Nat.le_trans hS.1 h)) (fun q h => hA q (Nat.le_trans hS.1 h)) (fun r_1 u t H1 locs ht hvm hw hB hz1 hk1 hS => ?_)
  have hP : va_P (dC, dI) cls [(h0, .inr (10, [.ref r0, .ref d0, .ref g0, .ref g1, .ref y1, .ref s1, .ref l1, .ref w1])), (r0, .inr (7, [.ref a1, .ref a2, .ref a3, .ref a4, .ref a5, .ref a6, .ref a7, .int 0])), (d0, .inr (2, [.ref b1, .ref b2, .ref b3, .int 0, .int (-1), .int (-1)])), (g0, .inr (4, [.ref f0, .ref n0, .ref y0, .int 0, .int 0, .int 0, .int 45])), (f0, .inr (3, [.ref r0, .ref d0, .ref z1, .ref z2, .ref z3, .ref z4, .ref z5, .int 0, .int 0]))] H1 := ro_keep hP hk1
  generalize H1 = H at hP hS ⊢
  refine W.widen (k := 0) (n := 0) (Nat.le_of_ble_eq_true rfl) (Nat.le_of_ble_eq_true rfl) ?_
  rcases hw with ⟨er_hc_2, hc_2⟩ | ⟨er_hc_2, hc_2⟩
  · exact absurd (Or.inl hc_2) hok
  · subst er_hc_2
    refine lv_if_ne (tgt := 23) hx hb dX10_living_4 (by decide) (fun c_3 => ?_) (fun c_3 => ?_)
    · exact absurd c_3 (by decide)
    · refine lv_iload_n hx hb dX10_living_7 rfl (lv_at hl 1 rfl) ?_
      refine lv_bipush (v := 42) hx hb dX10_living_8 (by decide) ?_
      refine lv_icmp_eq (tgt := 23) hx hb dX10_living_10 (by decide) (fun c_4 => ?_) (fun c_4 => ?_)
      · exact absurd (Or.inr c_4) hok
      · obtain ⟨sa_5, hsa_5⟩ := ham.2.1 _ _ _ sr_1080
        exact vx_throwS hx hb hst (own := RX10) (cls := "java/lang/IllegalArgumentException") (names := ["java/lang/RuntimeException", "java/lang/Exception"]) hown (by decide) (by decide) (hq _ q_696) (hq _ q_20) hsa_5 (fun w9 h9 => hq _ (at_X10_IllegalArgumentException_80_76 w9 h9)) at_X10_IllegalArgumentException_80_76_g ham.1.1 ham.1.2 hS (hl.1.trans hml.symm) dX10_living_13 dX10_living_16 dX10_living_17 dX10_living_19 dX10_living_22 (fun x9 h9 => (hte x9 h9).elim) (Nat.le_of_ble_eq_true rfl) (Nat.le_of_ble_eq_true rfl) (Nat.le_of_ble_eq_true rfl) (Nat.le_of_ble_eq_true rfl) hlocks (vx_end hS) hS.2.2 (Nat.le_of_ble_eq_true rfl) (Nat.le_of_ble_eq_true rfl)
abbrev cL_role : ByteArray := method_3_code
def yL_role : MethodName := ⟨RL, "role", "(LNightfallVillage;CCIZZZ[J)I"⟩
theorem q_682 : (Cond.codeWith yL_role cL_role 9 (some .int) [(0, 18, 21, 13), (0, 18, 25, 15), (0, 18, 29, 17)]) ∈ tw := tw_in (i := 682) (by decide +kernel) (by decide +kernel)
theorem dL_role_0 : decode cL_role 0 = .ok (.aload 7, 2) := by decide +kernel
theorem dL_role_2 : decode cL_role 2 = .ok (.iconst 0, 1) := by decide +kernel
theorem dL_role_3 : decode cL_role 3 = .ok (.aload_n 0, 1) := by decide +kernel
theorem dL_role_4 : decode cL_role 4 = .ok (.iload_n 1, 1) := by decide +kernel
theorem dL_role_5 : decode cL_role 5 = .ok (.iload_n 2, 1) := by decide +kernel
theorem dL_role_6 : decode cL_role 6 = .ok (.iload_n 3, 1) := by decide +kernel
theorem dL_role_7 : decode cL_role 7 = .ok (.iload 4, 2) := by decide +kernel
theorem dL_role_9 : decode cL_role 9 = .ok (.iload 5, 2) := by decide +kernel
theorem dL_role_11 : decode cL_role 11 = .ok (.iload 6, 2) := by decide +kernel
theorem dL_role_13 : decode cL_role 13 = .ok (.invokevirtual 7, 3) := by decide +kernel
theorem q_689 : (Cond.code yX10_role cX10_role 7 (some .int)) ∈ tw := tw_in (i := 689) (by decide +kernel) (by decide +kernel)
theorem q_686 : (Cond.methodLink "NightfallVillageLaw" 7 yX10_role) ∈ tw := tw_in (i := 686) (by decide +kernel) (by decide +kernel)
theorem q_687 : (Cond.instanceMethod yX10_role) ∈ tw := tw_in (i := 687) (by decide +kernel) (by decide +kernel)
theorem q_688 : (Cond.selects "NightfallVillage" yX10_role yX10_role) ∈ tw := tw_in (i := 688) (by decide +kernel) (by decide +kernel)
theorem dL_role_16 : decode cL_role 16 = .ok (.i2l, 1) := by decide +kernel
theorem dL_role_17 : decode cL_role 17 = .ok (.lastore, 1) := by decide +kernel
theorem dL_role_18 : decode cL_role 18 = .ok (.goto 15, 3) := by decide +kernel
theorem dL_role_33 : decode cL_role 33 = .ok (.iconst 0, 1) := by decide +kernel
theorem dL_role_34 : decode cL_role 34 = .ok (.ireturn, 1) := by decide +kernel
set_option maxHeartbeats 4000000 in
set_option maxRecDepth 100000 in
theorem c_L_role_ok (l : Launch) (hst : l.stackTraces = false) (tE : Nat) (adK adV : Nat → Nat) (dC : Nat → ClassId) (dI : Nat → Nat → Nat) (h0 : Nat) (r0 : Nat) (d0 : Nat) (g0 : Nat) (g1 : Nat) (y1 : Nat) (s1 : Nat) (l1 : Nat) (w1 : Nat) (a1 : Nat) (a2 : Nat) (a3 : Nat) (a4 : Nat) (a5 : Nat) (a6 : Nat) (a7 : Nat) (k1 : ClassId) (k2 : ClassId) (k3 : ClassId) (k4 : ClassId) (k5 : ClassId) (k6 : ClassId) (k7 : ClassId) (b1 : Nat) (b2 : Nat) (b3 : Nat) (f0 : Nat) (n0 : Nat) (y0 : Nat) (z1 : Nat) (z2 : Nat) (z3 : Nat) (z4 : Nat) (z5 : Nat) (u0 : Nat) (ku : ClassId) (fu : Nat → Int64) (p1 : Int32) (p2 : Int32) (p3 : Int32) (p4 : Int32) (p5 : Int32) (p6 : Int32) (hok : okR p1 p2 p3) (sz : Nat) : vx_Met l yL_role (Cond.codeWith yL_role cL_role 9 (some .int) [(0, 18, 21, 13), (0, 18, 25, 15), (0, 18, 29, 17)] :: tw) ({ frames := 2, cells := 0, slots := 0, locals := 53 }) (va_Pc [.ref h0, .int p1, .int p2, .int p3, .int p4, .int p5, .int p6, .ref u0] (pre tE adK adV (dC, dI) [(h0, .inr (10, [.ref r0, .ref d0, .ref g0, .ref g1, .ref y1, .ref s1, .ref l1, .ref w1])), (r0, .inr (7, [.ref a1, .ref a2, .ref a3, .ref a4, .ref a5, .ref a6, .ref a7, .int 0])), (a1, .inl (k1, 8, .inl (fun _ => 0))), (a2, .inl (k2, 8, .inl (fun _ => 0))), (a3, .inl (k3, 8, .inl (fun _ => 0))), (a4, .inl (k4, 8, .inl (fun _ => 0))), (a5, .inl (k5, 8, .inl (fun _ => 0))), (a6, .inl (k6, 8, .inl (fun _ => 0))), (a7, .inl (k7, 8, .inl (fun _ => 0))), (d0, .inr (2, [.ref b1, .ref b2, .ref b3, .int 0, .int (-1), .int (-1)])), (g0, .inr (4, [.ref f0, .ref n0, .ref y0, .int 0, .int 0, .int 0, .int 45])), (f0, .inr (3, [.ref r0, .ref d0, .ref z1, .ref z2, .ref z3, .ref z4, .ref z5, .int 0, .int 0])), (u0, .inl (ku, 1, .inr (.inl fu)))] [(k1, .char), (k2, .char), (k3, .int), (k4, .boolean), (k5, .boolean), (k6, .boolean), (k7, .int), (ku, .long)] sz)) (va_Qi (fun (r : Int32) (_ : Unit) => r = 0) (fun (_ : Unit) (t : State) => va_P (dC, dI) cls [(u0, .inl (ku, 1, .inr (.inl (vp_updL fu (0 : Int32).toNatClampNeg 0))))] t.heap ∧ va_K (dC, dI) cls [(ku, .long)] t ∧ va_D (va_A [(h0, .inr (10, [.ref r0, .ref d0, .ref g0, .ref g1, .ref y1, .ref s1, .ref l1, .ref w1])), (r0, .inr (7, [.ref a1, .ref a2, .ref a3, .ref a4, .ref a5, .ref a6, .ref a7, .int 0])), (a1, .inl (k1, 8, .inl (fun _ => 0))), (a2, .inl (k2, 8, .inl (fun _ => 0))), (a3, .inl (k3, 8, .inl (fun _ => 0))), (a4, .inl (k4, 8, .inl (fun _ => 0))), (a5, .inl (k5, 8, .inl (fun _ => 0))), (a6, .inl (k6, 8, .inl (fun _ => 0))), (a7, .inl (k7, 8, .inl (fun _ => 0))), (d0, .inr (2, [.ref b1, .ref b2, .ref b3, .int 0, .int (-1), .int (-1)])), (g0, .inr (4, [.ref f0, .ref n0, .ref y0, .int 0, .int 0, .int 0, .int 45])), (f0, .inr (3, [.ref r0, .ref d0, .ref z1, .ref z2, .ref z3, .ref z4, .ref z5, .int 0, .int 0])), (u0, .inl (ku, 1, .inr (.inl fu)))] sz) [(u0, .inl (ku, 1, .inr (.inl (vp_updL fu (0 : Int32).toNatClampNeg 0))))]) (va_A [(h0, .inr (10, [.ref r0, .ref d0, .ref g0, .ref g1, .ref y1, .ref s1, .ref l1, .ref w1])), (r0, .inr (7, [.ref a1, .ref a2, .ref a3, .ref a4, .ref a5, .ref a6, .ref a7, .int 0])), (a1, .inl (k1, 8, .inl (fun _ => 0))), (a2, .inl (k2, 8, .inl (fun _ => 0))), (a3, .inl (k3, 8, .inl (fun _ => 0))), (a4, .inl (k4, 8, .inl (fun _ => 0))), (a5, .inl (k5, 8, .inl (fun _ => 0))), (a6, .inl (k6, 8, .inl (fun _ => 0))), (a7, .inl (k7, 8, .inl (fun _ => 0))), (d0, .inr (2, [.ref b1, .ref b2, .ref b3, .int 0, .int (-1), .int (-1)])), (g0, .inr (4, [.ref f0, .ref n0, .ref y0, .int 0, .int 0, .int 0, .int 45])), (f0, .inr (3, [.ref r0, .ref d0, .ref z1, .ref z2, .ref z3, .ref z4, .ref z5, .int 0, .int 0])), (u0, .inl (ku, 1, .inr (.inl fu)))] sz)) (vx_X (fun _ : Unit => True) (fun E (_ : Unit) (_ : State) => False) (va_A [(h0, .inr (10, [.ref r0, .ref d0, .ref g0, .ref g1, .ref y1, .ref s1, .ref l1, .ref w1])), (r0, .inr (7, [.ref a1, .ref a2, .ref a3, .ref a4, .ref a5, .ref a6, .ref a7, .int 0])), (a1, .inl (k1, 8, .inl (fun _ => 0))), (a2, .inl (k2, 8, .inl (fun _ => 0))), (a3, .inl (k3, 8, .inl (fun _ => 0))), (a4, .inl (k4, 8, .inl (fun _ => 0))), (a5, .inl (k5, 8, .inl (fun _ => 0))), (a6, .inl (k6, 8, .inl (fun _ => 0))), (a7, .inl (k7, 8, .inl (fun _ => 0))), (d0, .inr (2, [.ref b1, .ref b2, .ref b3, .int 0, .int (-1), .int (-1)])), (g0, .inr (4, [.ref f0, .ref n0, .ref y0, .int 0, .int 0, .int 0, .int 45])), (f0, .inr (3, [.ref r0, .ref d0, .ref z1, .ref z2, .ref z3, .ref z4, .ref z5, .int 0, .int 0])), (u0, .inl (ku, 1, .inr (.inl fu)))] sz)) 0 0 (va_A [(h0, .inr (10, [.ref r0, .ref d0, .ref g0, .ref g1, .ref y1, .ref s1, .ref l1, .ref w1])), (r0, .inr (7, [.ref a1, .ref a2, .ref a3, .ref a4, .ref a5, .ref a6, .ref a7, .int 0])), (a1, .inl (k1, 8, .inl (fun _ => 0))), (a2, .inl (k2, 8, .inl (fun _ => 0))), (a3, .inl (k3, 8, .inl (fun _ => 0))), (a4, .inl (k4, 8, .inl (fun _ => 0))), (a5, .inl (k5, 8, .inl (fun _ => 0))), (a6, .inl (k6, 8, .inl (fun _ => 0))), (a7, .inl (k7, 8, .inl (fun _ => 0))), (d0, .inr (2, [.ref b1, .ref b2, .ref b3, .int 0, .int (-1), .int (-1)])), (g0, .inr (4, [.ref f0, .ref n0, .ref y0, .int 0, .int 0, .int 0, .int 45])), (f0, .inr (3, [.ref r0, .ref d0, .ref z1, .ref z2, .ref z3, .ref z4, .ref z5, .int 0, .int 0])), (u0, .inl (ku, 1, .inr (.inl fu)))] sz) := by
  refine vx_ofWH (cc := cL_role) (maxL := 9) (ret := (some .int)) (hh := [(0, 18, 21, 13), (0, 18, 25, 15), (0, 18, 29, 17)]) (by decide) rfl ?_
  intro p e s m args below meth c s₁ B hml hv
  obtain ⟨rfl, hsz, hP, hK, hD0, ham⟩ := hv
  have hx := B.exec
  have hb := B.bytes
  have hr := B.returns
  have hts := atoms_spec B.pre
  have hq : ∀ w ∈ tw, w.before _ s = true := fun w h => hts w (List.mem_cons_of_mem _ h)
  have hown : s.vm.findClass RL = some m.cls := findClass_of_methodNamed B.named
  have hlocks := B.notSynchronized
  have htab := vx_table (x := yL_role) B (hq _ q_682)
  subst hsz
  have hD := hD0.self (sz := s.heap.size)
  generalize hAe : va_A [(h0, .inr (10, [.ref r0, .ref d0, .ref g0, .ref g1, .ref y1, .ref s1, .ref l1, .ref w1])), (r0, .inr (7, [.ref a1, .ref a2, .ref a3, .ref a4, .ref a5, .ref a6, .ref a7, .int 0])), (a1, .inl (k1, 8, .inl (fun _ => 0))), (a2, .inl (k2, 8, .inl (fun _ => 0))), (a3, .inl (k3, 8, .inl (fun _ => 0))), (a4, .inl (k4, 8, .inl (fun _ => 0))), (a5, .inl (k5, 8, .inl (fun _ => 0))), (a6, .inl (k6, 8, .inl (fun _ => 0))), (a7, .inl (k7, 8, .inl (fun _ => 0))), (d0, .inr (2, [.ref b1, .ref b2, .ref b3, .int 0, .int (-1), .int (-1)])), (g0, .inr (4, [.ref f0, .ref n0, .ref y0, .int 0, .int 0, .int 0, .int 45])), (f0, .inr (3, [.ref r0, .ref d0, .ref z1, .ref z2, .ref z3, .ref z4, .ref z5, .int 0, .int 0])), (u0, .inl (ku, 1, .inr (.inl fu)))] s.heap.size = A at hD ham ⊢
  have hA : ∀ q : Nat, s.heap.size ≤ q → A q := fun q h => by rw [← hAe]; exact Or.inr h
  have hS : va_S A s.heap s.heap [] := va_S.rf
  have hP : va_P (dC, dI) cls [(h0, .inr (10, [.ref r0, .ref d0, .ref g0, .ref g1, .ref y1, .ref s1, .ref l1, .ref w1])), (r0, .inr (7, [.ref a1, .ref a2, .ref a3, .ref a4, .ref a5, .ref a6, .ref a7, .int 0])), (a1, .inl (k1, 8, .inl (fun _ => 0))), (a2, .inl (k2, 8, .inl (fun _ => 0))), (a3, .inl (k3, 8, .inl (fun _ => 0))), (a4, .inl (k4, 8, .inl (fun _ => 0))), (a5, .inl (k5, 8, .inl (fun _ => 0))), (a6, .inl (k6, 8, .inl (fun _ => 0))), (a7, .inl (k7, 8, .inl (fun _ => 0))), (d0, .inr (2, [.ref b1, .ref b2, .ref b3, .int 0, .int (-1), .int (-1)])), (g0, .inr (4, [.ref f0, .ref n0, .ref y0, .int 0, .int 0, .int 0, .int 45])), (f0, .inr (3, [.ref r0, .ref d0, .ref z1, .ref z2, .ref z3, .ref z4, .ref z5, .int 0, .int 0])), (u0, .inl (ku, 1, .inr (.inl fu)))] s.heap := hP
  have hl := lv_entry ([.ref h0, .int p1, .int p2, .int p3, .int p4, .int p5, .int p6, .ref u0]) (n := 9) (Nat.le_of_ble_eq_true rfl)
  rw [lg_entry_eq]
  generalize (lg_sl ([.ref h0, .int p1, .int p2, .int p3, .int p4, .int p5, .int p6, .ref u0]) ++ List.replicate (9 - (lg_sl ([.ref h0, .int p1, .int p2, .int p3, .int p4, .int p5, .int p6, .ref u0])).length) Slot.unset).toArray = ls at hl ⊢
  have hl : lv_has ls 9 [(0, .ref h0), (1, .int p1), (2, .int p2), (3, .int p3), (4, .int p4), (5, .int p5), (6, .int p6), (7, .ref u0)] := hl
  refine lv_aload hx hb dL_role_0 (lv_at hl 7 rfl) ?_
  refine lv_iconst (v := 0) hx hb dL_role_2 (by decide) ?_
  refine lv_aload_n hx hb dL_role_3 rfl (lv_at hl 0 rfl) ?_
  refine lv_iload_n hx hb dL_role_4 rfl (lv_at hl 1 rfl) ?_
  refine lv_iload_n hx hb dL_role_5 rfl (lv_at hl 2 rfl) ?_
  refine lv_iload_n hx hb dL_role_6 rfl (lv_at hl 3 rfl) ?_
  refine lv_iload hx hb dL_role_7 (lv_at hl 4 rfl) ?_
  refine lv_iload hx hb dL_role_9 (lv_at hl 5 rfl) ?_
  refine lv_iload hx hb dL_role_11 (lv_at hl 6 rfl) ?_
  have hPc := hP.sub (ws' := [(h0, .inr (10, [.ref r0, .ref d0, .ref g0, .ref g1, .ref y1, .ref s1, .ref l1, .ref w1])), (r0, .inr (7, [.ref a1, .ref a2, .ref a3, .ref a4, .ref a5, .ref a6, .ref a7, .int 0])), (a1, .inl (k1, 8, .inl (fun _ => 0))), (a2, .inl (k2, 8, .inl (fun _ => 0))), (a3, .inl (k3, 8, .inl (fun _ => 0))), (a4, .inl (k4, 8, .inl (fun _ => 0))), (a5, .inl (k5, 8, .inl (fun _ => 0))), (a6, .inl (k6, 8, .inl (fun _ => 0))), (a7, .inl (k7, 8, .inl (fun _ => 0))), (d0, .inr (2, [.ref b1, .ref b2, .ref b3, .int 0, .int (-1), .int (-1)])), (g0, .inr (4, [.ref f0, .ref n0, .ref y0, .int 0, .int 0, .int 0, .int 45])), (f0, .inr (3, [.ref r0, .ref d0, .ref z1, .ref z2, .ref z3, .ref z4, .ref z5, .int 0, .int 0]))]) [0, 1, 2, 3, 4, 5, 6, 7, 8, 9, 10, 11] rfl
  have hKc := hK.sub (tys' := [(k1, .char), (k2, .char), (k3, .int), (k4, .boolean), (k5, .boolean), (k6, .boolean), (k7, .int)]) [0, 1, 2, 3, 4, 5, 6] rfl
  have hDc := hD.sub (ws' := [(h0, .inr (10, [.ref r0, .ref d0, .ref g0, .ref g1, .ref y1, .ref s1, .ref l1, .ref w1])), (r0, .inr (7, [.ref a1, .ref a2, .ref a3, .ref a4, .ref a5, .ref a6, .ref a7, .int 0])), (a1, .inl (k1, 8, .inl (fun _ => 0))), (a2, .inl (k2, 8, .inl (fun _ => 0))), (a3, .inl (k3, 8, .inl (fun _ => 0))), (a4, .inl (k4, 8, .inl (fun _ => 0))), (a5, .inl (k5, 8, .inl (fun _ => 0))), (a6, .inl (k6, 8, .inl (fun _ => 0))), (a7, .inl (k7, 8, .inl (fun _ => 0))), (d0, .inr (2, [.ref b1, .ref b2, .ref b3, .int 0, .int (-1), .int (-1)])), (g0, .inr (4, [.ref f0, .ref n0, .ref y0, .int 0, .int 0, .int 0, .int 45])), (f0, .inr (3, [.ref r0, .ref d0, .ref z1, .ref z2, .ref z3, .ref z4, .ref z5, .int 0, .int 0]))]) [0, 1, 2, 3, 4, 5, 6, 7, 8, 9, 10, 11] (by decide) rfl
  have hFc := va_free (wc := [(h0, .inr (10, [.ref r0, .ref d0, .ref g0, .ref g1, .ref y1, .ref s1, .ref l1, .ref w1])), (r0, .inr (7, [.ref a1, .ref a2, .ref a3, .ref a4, .ref a5, .ref a6, .ref a7, .int 0])), (a1, .inl (k1, 8, .inl (fun _ => 0))), (a2, .inl (k2, 8, .inl (fun _ => 0))), (a3, .inl (k3, 8, .inl (fun _ => 0))), (a4, .inl (k4, 8, .inl (fun _ => 0))), (a5, .inl (k5, 8, .inl (fun _ => 0))), (a6, .inl (k6, 8, .inl (fun _ => 0))), (a7, .inl (k7, 8, .inl (fun _ => 0))), (d0, .inr (2, [.ref b1, .ref b2, .ref b3, .int 0, .int (-1), .int (-1)])), (g0, .inr (4, [.ref f0, .ref n0, .ref y0, .int 0, .int 0, .int 0, .int 45])), (f0, .inr (3, [.ref r0, .ref d0, .ref z1, .ref z2, .ref z3, .ref z4, .ref z5, .int 0, .int 0]))]) hD hS hA [0, 1, 2, 3, 4, 5, 6, 7, 8, 9, 10, 11] rfl
  refine va_calli (va_runV (As := [.int p1, .int p2, .int p3, .int p4, .int p5, .int p6]) (rest := [.int 0, .ref u0]) ⟨hx, hb, hml, hown, hq⟩ (c_X_role_ok l hst tE adK adV dC dI h0 r0 d0 g0 g1 y1 s1 l1 w1 a1 a2 a3 a4 a5 a6 a7 k1 k2 k3 k4 k5 k6 k7 b1 b2 b3 f0 n0 y0 z1 z2 z3 z4 z5 p1 p2 p3 p4 p5 p6 hok s.heap.size) (tcV 6 hq q_689 q_1 q_686 q_687 q_688 rfl rfl (by decide +kernel) ⟨Nat.le_of_ble_eq_true rfl, Nat.le_of_ble_eq_true rfl⟩) (pre.V (va_recv hK hP (ci := 10) (q0 := 0) rfl rfl) (pre.of hPc hDc hKc ham hS hFc)) rfl rfl hl.1 rfl (lv_room (Nat.le_of_ble_eq_true rfl)) dL_role_13 ⟨Nat.le_of_ble_eq_true rfl, Nat.le_of_ble_eq_true rfl⟩) hS (fun q _ h => hFc q h) hFc (fun r_1 u t H1 locs ht hvm hw hB hz1 hk1 hS => ?_)
  obtain ⟨hP, hD⟩ := va_join (wr := [(u0, .inl (ku, 1, .inr (.inl fu)))]) (w1 := []) (wc := [(h0, .inr (10, [.ref r0, .ref d0, .ref g0, .ref g1, .ref y1, .ref s1, .ref l1, .ref w1])), (r0, .inr (7, [.ref a1, .ref a2, .ref a3, .ref a4, .ref a5, .ref a6, .ref a7, .int 0])), (a1, .inl (k1, 8, .inl (fun _ => 0))), (a2, .inl (k2, 8, .inl (fun _ => 0))), (a3, .inl (k3, 8, .inl (fun _ => 0))), (a4, .inl (k4, 8, .inl (fun _ => 0))), (a5, .inl (k5, 8, .inl (fun _ => 0))), (a6, .inl (k6, 8, .inl (fun _ => 0))), (a7, .inl (k7, 8, .inl (fun _ => 0))), (d0, .inr (2, [.ref b1, .ref b2, .ref b3, .int 0, .int (-1), .int (-1)])), (g0, .inr (4, [.ref f0, .ref n0, .ref y0, .int 0, .int 0, .int 0, .int 45])), (f0, .inr (3, [.ref r0, .ref d0, .ref z1, .ref z2, .ref z3, .ref z4, .ref z5, .int 0, .int 0]))]) hP hD [0, 1, 2, 3, 4, 5, 6, 7, 8, 9, 10, 11] [12] rfl rfl (by decide) (by decide) hk1 hFc (fun k q h => by simp at h) ⟨fun i j p q h => by simp at h, fun k q h => by simp at h⟩
  generalize H1 = H at hP hS ⊢
  have hP : va_P (dC, dI) cls [(u0, .inl (ku, 1, .inr (.inl fu)))] H := hP
  have hD : va_D A [(u0, .inl (ku, 1, .inr (.inl fu)))] := hD
  have hK : va_K (dC, dI) cls [(k1, .char), (k2, .char), (k3, .int), (k4, .boolean), (k5, .boolean), (k6, .boolean), (k7, .int), (ku, .long)] s := hK
  refine W.widen (k := 0) (n := 0) (Nat.le_of_ble_eq_true rfl) (Nat.le_of_ble_eq_true rfl) ?_
  have hw : r_1 = 0 := hw
  subst hw
  refine lv_i2l (v := 0) hx hb dL_role_16 (by decide) ?_
  refine va_last hx hb hK hP hD hS 0 7 rfl rfl (by unfold vp_in; decide) dL_role_17 (fun H locs hP hD hS => ?_)
  have hP : va_P (dC, dI) cls [(u0, .inl (ku, 1, .inr (.inl (vp_updL fu (0 : Int32).toNatClampNeg 0))))] H := hP
  have hD : va_D A [(u0, .inl (ku, 1, .inr (.inl (vp_updL fu (0 : Int32).toNatClampNeg 0))))] := hD
  refine lv_goto (tgt := 33) hx hb dL_role_18 (by decide) ?_
  refine lv_iconst (v := 0) hx hb dL_role_33 (by decide) ?_
  refine W.widen (k := 0) (n := 0) (Nat.le_of_ble_eq_true rfl) (Nat.le_of_ble_eq_true rfl) ?_
  have hP9 := hP.sub (ws' := [(u0, .inl (ku, 1, .inr (.inl (vp_updL fu (0 : Int32).toNatClampNeg 0))))]) [0] rfl
  have hD9 := hD.sub (ws' := [(u0, .inl (ku, 1, .inr (.inl (vp_updL fu (0 : Int32).toNatClampNeg 0))))]) [0] (by decide) rfl
  have hK9 := hK.sub (tys' := [(ku, .long)]) [7] rfl
  exact vx_ret (W.iret (v := 0) hx hb hr (fun t ht hW => ⟨⟨0, (), rfl, rfl, ⟨by rw [ht]; exact hP9, va_K.moved hW.alike hK9, hD9⟩⟩, hS.F ht⟩) hS.2.2 dL_role_34)
theorem q_683 : (Cond.classLink "NightfallVillageLaw" 13 "java/lang/IllegalArgumentException") ∈ tw := tw_in (i := 683) (by decide +kernel) (by decide +kernel)
theorem q_698 : (Cond.castable "java/lang/IllegalArgumentException" "java/lang/IllegalArgumentException") ∈ tw := tw_in (i := 698) (by decide +kernel) (by decide +kernel)
theorem dL_role_21 : decode cL_role 21 = .ok (.astore 8, 2) := by decide +kernel
theorem dL_role_23 : decode cL_role 23 = .ok (.iconst 1, 1) := by decide +kernel
theorem dL_role_24 : decode cL_role 24 = .ok (.ireturn, 1) := by decide +kernel
set_option maxHeartbeats 4000000 in
set_option maxRecDepth 100000 in
theorem c_L_role_no (l : Launch) (hst : l.stackTraces = false) (tE : Nat) (adK adV : Nat → Nat) (dC : Nat → ClassId) (dI : Nat → Nat → Nat) (h0 : Nat) (r0 : Nat) (d0 : Nat) (g0 : Nat) (g1 : Nat) (y1 : Nat) (s1 : Nat) (l1 : Nat) (w1 : Nat) (a1 : Nat) (a2 : Nat) (a3 : Nat) (a4 : Nat) (a5 : Nat) (a6 : Nat) (a7 : Nat) (b1 : Nat) (b2 : Nat) (b3 : Nat) (f0 : Nat) (n0 : Nat) (y0 : Nat) (z1 : Nat) (z2 : Nat) (z3 : Nat) (z4 : Nat) (z5 : Nat) (u0 : Nat) (p1 : Int32) (p2 : Int32) (p3 : Int32) (p4 : Int32) (p5 : Int32) (p6 : Int32) (hok : ¬ okR p1 p2 p3) (sz : Nat) : vx_Met l yL_role (Cond.codeWith yL_role cL_role 9 (some .int) [(0, 18, 21, 13), (0, 18, 25, 15), (0, 18, 29, 17)] :: tw) ({ frames := 7, cells := 1, slots := 6, locals := 108 }) (va_Pc [.ref h0, .int p1, .int p2, .int p3, .int p4, .int p5, .int p6, .ref u0] (preR tE adK adV (dC, dI) [(h0, .inr (10, [.ref r0, .ref d0, .ref g0, .ref g1, .ref y1, .ref s1, .ref l1, .ref w1])), (r0, .inr (7, [.ref a1, .ref a2, .ref a3, .ref a4, .ref a5, .ref a6, .ref a7, .int 0])), (d0, .inr (2, [.ref b1, .ref b2, .ref b3, .int 0, .int (-1), .int (-1)])), (g0, .inr (4, [.ref f0, .ref n0, .ref y0, .int 0, .int 0, .int 0, .int 45])), (f0, .inr (3, [.ref r0, .ref d0, .ref z1, .ref z2, .ref z3, .ref z4, .ref z5, .int 0, .int 0]))] [] sz)) (va_Qi (fun (r : Int32) (_ : Unit) => r = 1) (fun (_ : Unit) (_ : State) => True) (fun q : Nat => sz ≤ q)) (vx_X (fun _ : Unit => True) (fun E (_ : Unit) (_ : State) => False) (fun q : Nat => sz ≤ q)) 1 6 (fun q : Nat => sz ≤ q) := by
  refine vx_ofWH (cc := cL_role) (maxL := 9) (ret := (some .int)) (hh := [(0, 18, 21, 13), (0, 18, 25, 15), (0, 18, 29, 17)]) (by decide) rfl ?_
  intro p e s m args below meth c s₁ B hml hv
  obtain ⟨rfl, hsz, hP, hK, ham⟩ := hv
  have hx := B.exec
  have hb := B.bytes
  have hr := B.returns
  have hts := atoms_spec B.pre
  have hq : ∀ w ∈ tw, w.before _ s = true := fun w h => hts w (List.mem_cons_of_mem _ h)
  have hown : s.vm.findClass RL = some m.cls := findClass_of_methodNamed B.named
  have hlocks := B.notSynchronized
  have htab := vx_table (x := yL_role) B (hq _ q_682)
  subst hsz
  generalize hAe : (fun q : Nat => s.heap.size ≤ q) = A at ham ⊢
  have hA : ∀ q : Nat, s.heap.size ≤ q → A q := fun q h => by rw [← hAe]; exact h
  have hS : va_S A s.heap s.heap [] := va_S.rf
  have hP : va_P (dC, dI) cls [(h0, .inr (10, [.ref r0, .ref d0, .ref g0, .ref g1, .ref y1, .ref s1, .ref l1, .ref w1])), (r0, .inr (7, [.ref a1, .ref a2, .ref a3, .ref a4, .ref a5, .ref a6, .ref a7, .int 0])), (d0, .inr (2, [.ref b1, .ref b2, .ref b3, .int 0, .int (-1), .int (-1)])), (g0, .inr (4, [.ref f0, .ref n0, .ref y0, .int 0, .int 0, .int 0, .int 45])), (f0, .inr (3, [.ref r0, .ref d0, .ref z1, .ref z2, .ref z3, .ref z4, .ref z5, .int 0, .int 0]))] s.heap := hP
  have hl := lv_entry ([.ref h0, .int p1, .int p2, .int p3, .int p4, .int p5, .int p6, .ref u0]) (n := 9) (Nat.le_of_ble_eq_true rfl)
  rw [lg_entry_eq]
  generalize (lg_sl ([.ref h0, .int p1, .int p2, .int p3, .int p4, .int p5, .int p6, .ref u0]) ++ List.replicate (9 - (lg_sl ([.ref h0, .int p1, .int p2, .int p3, .int p4, .int p5, .int p6, .ref u0])).length) Slot.unset).toArray = ls at hl ⊢
  have hl : lv_has ls 9 [(0, .ref h0), (1, .int p1), (2, .int p2), (3, .int p3), (4, .int p4), (5, .int p5), (6, .int p6), (7, .ref u0)] := hl
  refine lv_aload hx hb dL_role_0 (lv_at hl 7 rfl) ?_
  refine lv_iconst (v := 0) hx hb dL_role_2 (by decide) ?_
  refine lv_aload_n hx hb dL_role_3 rfl (lv_at hl 0 rfl) ?_
  refine lv_iload_n hx hb dL_role_4 rfl (lv_at hl 1 rfl) ?_
  refine lv_iload_n hx hb dL_role_5 rfl (lv_at hl 2 rfl) ?_
  refine lv_iload_n hx hb dL_role_6 rfl (lv_at hl 3 rfl) ?_
  refine lv_iload hx hb dL_role_7 (lv_at hl 4 rfl) ?_
  refine lv_iload hx hb dL_role_9 (lv_at hl 5 rfl) ?_
  refine lv_iload hx hb dL_role_11 (lv_at hl 6 rfl) ?_
  have hPc := hP.sub (ws' := [(h0, .inr (10, [.ref r0, .ref d0, .ref g0, .ref g1, .ref y1, .ref s1, .ref l1, .ref w1])), (r0, .inr (7, [.ref a1, .ref a2, .ref a3, .ref a4, .ref a5, .ref a6, .ref a7, .int 0])), (d0, .inr (2, [.ref b1, .ref b2, .ref b3, .int 0, .int (-1), .int (-1)])), (g0, .inr (4, [.ref f0, .ref n0, .ref y0, .int 0, .int 0, .int 0, .int 45])), (f0, .inr (3, [.ref r0, .ref d0, .ref z1, .ref z2, .ref z3, .ref z4, .ref z5, .int 0, .int 0]))]) [0, 1, 2, 3, 4] rfl
  have hKc := hK.sub (tys' := []) [] rfl
  refine vx_calli (vx_runV (As := [.int p1, .int p2, .int p3, .int p4, .int p5, .int p6]) (rest := [.int 0, .ref u0]) ⟨hx, hb, hml, hown, hq⟩ (c_X_role_no l hst tE adK adV dC dI h0 r0 d0 g0 g1 y1 s1 l1 w1 a1 a2 a3 a4 a5 a6 a7 b1 b2 b3 f0 n0 y0 z1 z2 z3 z4 z5 p1 p2 p3 p4 p5 p6 hok s.heap.size) (tcV 6 hq q_689 q_1 q_686 q_687 q_688 rfl rfl (by decide +kernel) ⟨Nat.le_of_ble_eq_true rfl, Nat.le_of_ble_eq_true rfl⟩) (preR.V (va_recv hK hP (ci := 10) (q0 := 0) rfl rfl) (preR.of hPc hKc ham hS hA)) rfl rfl hl.1 rfl (lv_room (Nat.le_of_ble_eq_true rfl)) dL_role_13 ⟨Nat.le_of_ble_eq_true rfl, Nat.le_of_ble_eq_true rfl⟩) hS (fun q _ h => hA q (Nat.le_trans hS.1 h)) (fun q h => hA q (Nat.le_trans hS.1 h)) (fun q _ h => hA q (Nat.le_trans hS.1 h)) (fun E ce q9 u t H1 locs ht hvm hpx hB hz1 hk1 hS hce hcv hcl => ?_) (fun r_1 u t H1 locs ht hvm hw hB hz1 hk1 hS => ?_)
  · have hE : E = "java/lang/IllegalArgumentException" := hB
    subst hE
    refine vx_catch (own := RL) (name := "java/lang/IllegalArgumentException") hown [] ⟨0, 18, 21, 13⟩ [⟨0, 18, 25, 15⟩, ⟨0, 18, 29, 17⟩] (htab.trans rfl) (fun z hz => by cases hz) (by decide) (by decide) (hq _ q_683) (hq _ q_698) hce hcv hcl ?_
    have hP : va_P (dC, dI) cls [(h0, .inr (10, [.ref r0, .ref d0, .ref g0, .ref g1, .ref y1, .ref s1, .ref l1, .ref w1])), (r0, .inr (7, [.ref a1, .ref a2, .ref a3, .ref a4, .ref a5, .ref a6, .ref a7, .int 0])), (d0, .inr (2, [.ref b1, .ref b2, .ref b3, .int 0, .int (-1), .int (-1)])), (g0, .inr (4, [.ref f0, .ref n0, .ref y0, .int 0, .int 0, .int 0, .int 45])), (f0, .inr (3, [.ref r0, .ref d0, .ref z1, .ref z2, .ref z3, .ref z4, .ref z5, .int 0, .int 0]))] H1 := ro_keep hP hk1
    generalize H1 = H at hP hS ⊢
    refine W.widen (k := 1) (n := 6) (Nat.le_of_ble_eq_true rfl) (Nat.le_of_ble_eq_true rfl) ?_
    refine lv_astore (lv' := [(8, .ref q9), (0, .ref h0), (1, .int p1), (2, .int p2), (3, .int p3), (4, .int p4), (5, .int p5), (6, .int p6), (7, .ref u0)]) hx hb dL_role_21 hl (by decide) rfl (fun ls hl => ?_)
    refine lv_iconst (v := 1) hx hb dL_role_23 (by decide) ?_
    refine W.widen (k := 1) (n := 6) (Nat.le_of_ble_eq_true rfl) (Nat.le_of_ble_eq_true rfl) ?_
    exact vx_ret (W.iret (v := 1) hx hb hr (fun t ht hW => ⟨⟨1, (), rfl, rfl, trivial⟩, hS.F ht⟩) hS.2.2 dL_role_24)
  · exact (hw : False).elim
abbrev cL_living : ByteArray := method_21_code
def yL_living : MethodName := ⟨RL, "living", "(LNightfallVillage;C[J)I"⟩
theorem q_1075 : (Cond.codeWith yL_living cL_living 4 (some .int) [(0, 9, 12, 13)]) ∈ tw := tw_in (i := 1075) (by decide +kernel) (by decide +kernel)
theorem dL_living_0 : decode cL_living 0 = .ok (.aload_n 2, 1) := by decide +kernel
theorem dL_living_1 : decode cL_living 1 = .ok (.iconst 0, 1) := by decide +kernel
theorem dL_living_2 : decode cL_living 2 = .ok (.aload_n 0, 1) := by decide +kernel
theorem dL_living_3 : decode cL_living 3 = .ok (.iload_n 1, 1) := by decide +kernel
theorem dL_living_4 : decode cL_living 4 = .ok (.invokevirtual 81, 3) := by decide +kernel
theorem q_1079 : (Cond.code yX10_living cX10_living 2 (some .int)) ∈ tw := tw_in (i := 1079) (by decide +kernel) (by decide +kernel)
theorem q_1076 : (Cond.methodLink "NightfallVillageLaw" 81 yX10_living) ∈ tw := tw_in (i := 1076) (by decide +kernel) (by decide +kernel)
theorem q_1077 : (Cond.instanceMethod yX10_living) ∈ tw := tw_in (i := 1077) (by decide +kernel) (by decide +kernel)
theorem q_1078 : (Cond.selects "NightfallVillage" yX10_living yX10_living) ∈ tw := tw_in (i := 1078) (by decide +kernel) (by decide +kernel)
theorem dL_living_7 : decode cL_living 7 = .ok (.i2l, 1) := by decide +kernel
theorem dL_living_8 : decode cL_living 8 = .ok (.lastore, 1) := by decide +kernel
theorem dL_living_9 : decode cL_living 9 = .ok (.goto 6, 3) := by decide +kernel
theorem dL_living_15 : decode cL_living 15 = .ok (.iconst 0, 1) := by decide +kernel
theorem dL_living_16 : decode cL_living 16 = .ok (.ireturn, 1) := by decide +kernel
set_option maxHeartbeats 4000000 in
set_option maxRecDepth 100000 in
theorem c_L_living_ok (l : Launch) (hst : l.stackTraces = false) (tE : Nat) (adK adV : Nat → Nat) (dC : Nat → ClassId) (dI : Nat → Nat → Nat) (h0 : Nat) (r0 : Nat) (d0 : Nat) (g0 : Nat) (g1 : Nat) (y1 : Nat) (s1 : Nat) (l1 : Nat) (w1 : Nat) (a1 : Nat) (a2 : Nat) (a3 : Nat) (a4 : Nat) (a5 : Nat) (a6 : Nat) (a7 : Nat) (b1 : Nat) (b2 : Nat) (b3 : Nat) (f0 : Nat) (n0 : Nat) (y0 : Nat) (z1 : Nat) (z2 : Nat) (z3 : Nat) (z4 : Nat) (z5 : Nat) (u0 : Nat) (ku : ClassId) (fu : Nat → Int64) (p1 : Int32) (hok : okL p1) (sz : Nat) : vx_Met l yL_living (Cond.codeWith yL_living cL_living 4 (some .int) [(0, 9, 12, 13)] :: tw) ({ frames := 2, cells := 0, slots := 0, locals := 44 }) (va_Pc [.ref h0, .int p1, .ref u0] (pre tE adK adV (dC, dI) [(h0, .inr (10, [.ref r0, .ref d0, .ref g0, .ref g1, .ref y1, .ref s1, .ref l1, .ref w1])), (r0, .inr (7, [.ref a1, .ref a2, .ref a3, .ref a4, .ref a5, .ref a6, .ref a7, .int 0])), (d0, .inr (2, [.ref b1, .ref b2, .ref b3, .int 0, .int (-1), .int (-1)])), (g0, .inr (4, [.ref f0, .ref n0, .ref y0, .int 0, .int 0, .int 0, .int 45])), (f0, .inr (3, [.ref r0, .ref d0, .ref z1, .ref z2, .ref z3, .ref z4, .ref z5, .int 0, .int 0])), (u0, .inl (ku, 1, .inr (.inl fu)))] [(ku, .long)] sz)) (va_Qi (fun (r : Int32) (_ : Unit) => r = 0) (fun (_ : Unit) (t : State) => va_P (dC, dI) cls [(u0, .inl (ku, 1, .inr (.inl (vp_updL fu (0 : Int32).toNatClampNeg 0))))] t.heap ∧ va_K (dC, dI) cls [(ku, .long)] t ∧ va_D (va_A [(h0, .inr (10, [.ref r0, .ref d0, .ref g0, .ref g1, .ref y1, .ref s1, .ref l1, .ref w1])), (r0, .inr (7, [.ref a1, .ref a2, .ref a3, .ref a4, .ref a5, .ref a6, .ref a7, .int 0])), (d0, .inr (2, [.ref b1, .ref b2, .ref b3, .int 0, .int (-1), .int (-1)])), (g0, .inr (4, [.ref f0, .ref n0, .ref y0, .int 0, .int 0, .int 0, .int 45])), (f0, .inr (3, [.ref r0, .ref d0, .ref z1, .ref z2, .ref z3, .ref z4, .ref z5, .int 0, .int 0])), (u0, .inl (ku, 1, .inr (.inl fu)))] sz) [(u0, .inl (ku, 1, .inr (.inl (vp_updL fu (0 : Int32).toNatClampNeg 0))))]) (va_A [(h0, .inr (10, [.ref r0, .ref d0, .ref g0, .ref g1, .ref y1, .ref s1, .ref l1, .ref w1])), (r0, .inr (7, [.ref a1, .ref a2, .ref a3, .ref a4, .ref a5, .ref a6, .ref a7, .int 0])), (d0, .inr (2, [.ref b1, .ref b2, .ref b3, .int 0, .int (-1), .int (-1)])), (g0, .inr (4, [.ref f0, .ref n0, .ref y0, .int 0, .int 0, .int 0, .int 45])), (f0, .inr (3, [.ref r0, .ref d0, .ref z1, .ref z2, .ref z3, .ref z4, .ref z5, .int 0, .int 0])), (u0, .inl (ku, 1, .inr (.inl fu)))] sz)) (vx_X (fun _ : Unit => True) (fun E (_ : Unit) (_ : State) => False) (va_A [(h0, .inr (10, [.ref r0, .ref d0, .ref g0, .ref g1, .ref y1, .ref s1, .ref l1, .ref w1])), (r0, .inr (7, [.ref a1, .ref a2, .ref a3, .ref a4, .ref a5, .ref a6, .ref a7, .int 0])), (d0, .inr (2, [.ref b1, .ref b2, .ref b3, .int 0, .int (-1), .int (-1)])), (g0, .inr (4, [.ref f0, .ref n0, .ref y0, .int 0, .int 0, .int 0, .int 45])), (f0, .inr (3, [.ref r0, .ref d0, .ref z1, .ref z2, .ref z3, .ref z4, .ref z5, .int 0, .int 0])), (u0, .inl (ku, 1, .inr (.inl fu)))] sz)) 0 0 (va_A [(h0, .inr (10, [.ref r0, .ref d0, .ref g0, .ref g1, .ref y1, .ref s1, .ref l1, .ref w1])), (r0, .inr (7, [.ref a1, .ref a2, .ref a3, .ref a4, .ref a5, .ref a6, .ref a7, .int 0])), (d0, .inr (2, [.ref b1, .ref b2, .ref b3, .int 0, .int (-1), .int (-1)])), (g0, .inr (4, [.ref f0, .ref n0, .ref y0, .int 0, .int 0, .int 0, .int 45])), (f0, .inr (3, [.ref r0, .ref d0, .ref z1, .ref z2, .ref z3, .ref z4, .ref z5, .int 0, .int 0])), (u0, .inl (ku, 1, .inr (.inl fu)))] sz) := by
  refine vx_ofWH (cc := cL_living) (maxL := 4) (ret := (some .int)) (hh := [(0, 9, 12, 13)]) (by decide) rfl ?_
  intro p e s m args below meth c s₁ B hml hv
  obtain ⟨rfl, hsz, hP, hK, hD0, ham⟩ := hv
  have hx := B.exec
  have hb := B.bytes
  have hr := B.returns
  have hts := atoms_spec B.pre
  have hq : ∀ w ∈ tw, w.before _ s = true := fun w h => hts w (List.mem_cons_of_mem _ h)
  have hown : s.vm.findClass RL = some m.cls := findClass_of_methodNamed B.named
  have hlocks := B.notSynchronized
  have htab := vx_table (x := yL_living) B (hq _ q_1075)
  subst hsz
  have hD := hD0.self (sz := s.heap.size)
  generalize hAe : va_A [(h0, .inr (10, [.ref r0, .ref d0, .ref g0, .ref g1, .ref y1, .ref s1, .ref l1, .ref w1])), (r0, .inr (7, [.ref a1, .ref a2, .ref a3, .ref a4, .ref a5, .ref a6, .ref a7, .int 0])), (d0, .inr (2, [.ref b1, .ref b2, .ref b3, .int 0, .int (-1), .int (-1)])), (g0, .inr (4, [.ref f0, .ref n0, .ref y0, .int 0, .int 0, .int 0, .int 45])), (f0, .inr (3, [.ref r0, .ref d0, .ref z1, .ref z2, .ref z3, .ref z4, .ref z5, .int 0, .int 0])), (u0, .inl (ku, 1, .inr (.inl fu)))] s.heap.size = A at hD ham ⊢
  have hA : ∀ q : Nat, s.heap.size ≤ q → A q := fun q h => by rw [← hAe]; exact Or.inr h
  have hS : va_S A s.heap s.heap [] := va_S.rf
  have hP : va_P (dC, dI) cls [(h0, .inr (10, [.ref r0, .ref d0, .ref g0, .ref g1, .ref y1, .ref s1, .ref l1, .ref w1])), (r0, .inr (7, [.ref a1, .ref a2, .ref a3, .ref a4, .ref a5, .ref a6, .ref a7, .int 0])), (d0, .inr (2, [.ref b1, .ref b2, .ref b3, .int 0, .int (-1), .int (-1)])), (g0, .inr (4, [.ref f0, .ref n0, .ref y0, .int 0, .int 0, .int 0, .int 45])), (f0, .inr (3, [.ref r0, .ref d0, .ref z1, .ref z2, .ref z3, .ref z4, .ref z5, .int 0, .int 0])), (u0, .inl (ku, 1, .inr (.inl fu)))] s.heap := hP
  have hl := lv_entry ([.ref h0, .int p1, .ref u0]) (n := 4) (Nat.le_of_ble_eq_true rfl)
  rw [lg_entry_eq]
  generalize (lg_sl ([.ref h0, .int p1, .ref u0]) ++ List.replicate (4 - (lg_sl ([.ref h0, .int p1, .ref u0])).length) Slot.unset).toArray = ls at hl ⊢
  have hl : lv_has ls 4 [(0, .ref h0), (1, .int p1), (2, .ref u0)] := hl
  refine lv_aload_n hx hb dL_living_0 rfl (lv_at hl 2 rfl) ?_
  refine lv_iconst (v := 0) hx hb dL_living_1 (by decide) ?_
  refine lv_aload_n hx hb dL_living_2 rfl (lv_at hl 0 rfl) ?_
  refine lv_iload_n hx hb dL_living_3 rfl (lv_at hl 1 rfl) ?_
  have hPc := hP.sub (ws' := [(h0, .inr (10, [.ref r0, .ref d0, .ref g0, .ref g1, .ref y1, .ref s1, .ref l1, .ref w1])), (r0, .inr (7, [.ref a1, .ref a2, .ref a3, .ref a4, .ref a5, .ref a6, .ref a7, .int 0])), (d0, .inr (2, [.ref b1, .ref b2, .ref b3, .int 0, .int (-1), .int (-1)])), (g0, .inr (4, [.ref f0, .ref n0, .ref y0, .int 0, .int 0, .int 0, .int 45])), (f0, .inr (3, [.ref r0, .ref d0, .ref z1, .ref z2, .ref z3, .ref z4, .ref z5, .int 0, .int 0]))]) [0, 1, 2, 3, 4] rfl
  have hKc := hK.sub (tys' := []) [] rfl
  refine va_calli (va_runV (As := [.int p1]) (rest := [.int 0, .ref u0]) ⟨hx, hb, hml, hown, hq⟩ (c_X_living_ok l hst tE adK adV dC dI h0 r0 d0 g0 g1 y1 s1 l1 w1 a1 a2 a3 a4 a5 a6 a7 b1 b2 b3 f0 n0 y0 z1 z2 z3 z4 z5 p1 hok s.heap.size) (tcV 1 hq q_1079 q_1 q_1076 q_1077 q_1078 rfl rfl (by decide +kernel) ⟨Nat.le_of_ble_eq_true rfl, Nat.le_of_ble_eq_true rfl⟩) (preR.V (va_recv hK hP (ci := 10) (q0 := 0) rfl rfl) (preR.of hPc hKc ham hS hA)) rfl rfl hl.1 rfl (lv_room (Nat.le_of_ble_eq_true rfl)) dL_living_4 ⟨Nat.le_of_ble_eq_true rfl, Nat.le_of_ble_eq_true rfl⟩) hS (fun q _ h => hA q (Nat.le_trans hS.1 h)) (fun q h => hA q (Nat.le_trans hS.1 h)) (fun r_1 u t H1 locs ht hvm hw hB hz1 hk1 hS => ?_)
  have hP : va_P (dC, dI) cls [(h0, .inr (10, [.ref r0, .ref d0, .ref g0, .ref g1, .ref y1, .ref s1, .ref l1, .ref w1])), (r0, .inr (7, [.ref a1, .ref a2, .ref a3, .ref a4, .ref a5, .ref a6, .ref a7, .int 0])), (d0, .inr (2, [.ref b1, .ref b2, .ref b3, .int 0, .int (-1), .int (-1)])), (g0, .inr (4, [.ref f0, .ref n0, .ref y0, .int 0, .int 0, .int 0, .int 45])), (f0, .inr (3, [.ref r0, .ref d0, .ref z1, .ref z2, .ref z3, .ref z4, .ref z5, .int 0, .int 0])), (u0, .inl (ku, 1, .inr (.inl fu)))] H1 := ro_keep hP hk1
  generalize H1 = H at hP hS ⊢
  refine W.widen (k := 0) (n := 0) (Nat.le_of_ble_eq_true rfl) (Nat.le_of_ble_eq_true rfl) ?_
  have hw : r_1 = 0 := hw
  subst hw
  refine lv_i2l (v := 0) hx hb dL_living_7 (by decide) ?_
  refine va_last hx hb hK hP hD hS 5 0 rfl rfl (by unfold vp_in; decide) dL_living_8 (fun H locs hP hD hS => ?_)
  have hP : va_P (dC, dI) cls [(h0, .inr (10, [.ref r0, .ref d0, .ref g0, .ref g1, .ref y1, .ref s1, .ref l1, .ref w1])), (r0, .inr (7, [.ref a1, .ref a2, .ref a3, .ref a4, .ref a5, .ref a6, .ref a7, .int 0])), (d0, .inr (2, [.ref b1, .ref b2, .ref b3, .int 0, .int (-1), .int (-1)])), (g0, .inr (4, [.ref f0, .ref n0, .ref y0, .int 0, .int 0, .int 0, .int 45])), (f0, .inr (3, [.ref r0, .ref d0, .ref z1, .ref z2, .ref z3, .ref z4, .ref z5, .int 0, .int 0])), (u0, .inl (ku, 1, .inr (.inl (vp_updL fu (0 : Int32).toNatClampNeg 0))))] H := hP
  have hD : va_D A [(h0, .inr (10, [.ref r0, .ref d0, .ref g0, .ref g1, .ref y1, .ref s1, .ref l1, .ref w1])), (r0, .inr (7, [.ref a1, .ref a2, .ref a3, .ref a4, .ref a5, .ref a6, .ref a7, .int 0])), (d0, .inr (2, [.ref b1, .ref b2, .ref b3, .int 0, .int (-1), .int (-1)])), (g0, .inr (4, [.ref f0, .ref n0, .ref y0, .int 0, .int 0, .int 0, .int 45])), (f0, .inr (3, [.ref r0, .ref d0, .ref z1, .ref z2, .ref z3, .ref z4, .ref z5, .int 0, .int 0])), (u0, .inl (ku, 1, .inr (.inl (vp_updL fu (0 : Int32).toNatClampNeg 0))))] := hD
  refine lv_goto (tgt := 15) hx hb dL_living_9 (by decide) ?_
  refine lv_iconst (v := 0) hx hb dL_living_15 (by decide) ?_
  refine W.widen (k := 0) (n := 0) (Nat.le_of_ble_eq_true rfl) (Nat.le_of_ble_eq_true rfl) ?_
  have hP9 := hP.sub (ws' := [(u0, .inl (ku, 1, .inr (.inl (vp_updL fu (0 : Int32).toNatClampNeg 0))))]) [5] rfl
  have hD9 := hD.sub (ws' := [(u0, .inl (ku, 1, .inr (.inl (vp_updL fu (0 : Int32).toNatClampNeg 0))))]) [5] (by decide) rfl
  have hK9 := hK.sub (tys' := [(ku, .long)]) [0] rfl
  exact vx_ret (W.iret (v := 0) hx hb hr (fun t ht hW => ⟨⟨0, (), rfl, rfl, ⟨by rw [ht]; exact hP9, va_K.moved hW.alike hK9, hD9⟩⟩, hS.F ht⟩) hS.2.2 dL_living_16)
theorem dL_living_12 : decode cL_living 12 = .ok (.astore_n 3, 1) := by decide +kernel
theorem dL_living_13 : decode cL_living 13 = .ok (.iconst 1, 1) := by decide +kernel
theorem dL_living_14 : decode cL_living 14 = .ok (.ireturn, 1) := by decide +kernel
set_option maxHeartbeats 4000000 in
set_option maxRecDepth 100000 in
theorem c_L_living_no (l : Launch) (hst : l.stackTraces = false) (tE : Nat) (adK adV : Nat → Nat) (dC : Nat → ClassId) (dI : Nat → Nat → Nat) (h0 : Nat) (r0 : Nat) (d0 : Nat) (g0 : Nat) (g1 : Nat) (y1 : Nat) (s1 : Nat) (l1 : Nat) (w1 : Nat) (a1 : Nat) (a2 : Nat) (a3 : Nat) (a4 : Nat) (a5 : Nat) (a6 : Nat) (a7 : Nat) (b1 : Nat) (b2 : Nat) (b3 : Nat) (f0 : Nat) (n0 : Nat) (y0 : Nat) (z1 : Nat) (z2 : Nat) (z3 : Nat) (z4 : Nat) (z5 : Nat) (u0 : Nat) (p1 : Int32) (hok : ¬ okL p1) (sz : Nat) : vx_Met l yL_living (Cond.codeWith yL_living cL_living 4 (some .int) [(0, 9, 12, 13)] :: tw) ({ frames := 7, cells := 1, slots := 6, locals := 103 }) (va_Pc [.ref h0, .int p1, .ref u0] (preR tE adK adV (dC, dI) [(h0, .inr (10, [.ref r0, .ref d0, .ref g0, .ref g1, .ref y1, .ref s1, .ref l1, .ref w1])), (r0, .inr (7, [.ref a1, .ref a2, .ref a3, .ref a4, .ref a5, .ref a6, .ref a7, .int 0])), (d0, .inr (2, [.ref b1, .ref b2, .ref b3, .int 0, .int (-1), .int (-1)])), (g0, .inr (4, [.ref f0, .ref n0, .ref y0, .int 0, .int 0, .int 0, .int 45])), (f0, .inr (3, [.ref r0, .ref d0, .ref z1, .ref z2, .ref z3, .ref z4, .ref z5, .int 0, .int 0]))] [] sz)) (va_Qi (fun (r : Int32) (_ : Unit) => r = 1) (fun (_ : Unit) (_ : State) => True) (fun q : Nat => sz ≤ q)) (vx_X (fun _ : Unit => True) (fun E (_ : Unit) (_ : State) => False) (fun q : Nat => sz ≤ q)) 1 6 (fun q : Nat => sz ≤ q) := by
  refine vx_ofWH (cc := cL_living) (maxL := 4) (ret := (some .int)) (hh := [(0, 9, 12, 13)]) (by decide) rfl ?_
  intro p e s m args below meth c s₁ B hml hv
  obtain ⟨rfl, hsz, hP, hK, ham⟩ := hv
  have hx := B.exec
  have hb := B.bytes
  have hr := B.returns
  have hts := atoms_spec B.pre
  have hq : ∀ w ∈ tw, w.before _ s = true := fun w h => hts w (List.mem_cons_of_mem _ h)
  have hown : s.vm.findClass RL = some m.cls := findClass_of_methodNamed B.named
  have hlocks := B.notSynchronized
  have htab := vx_table (x := yL_living) B (hq _ q_1075)
  subst hsz
  generalize hAe : (fun q : Nat => s.heap.size ≤ q) = A at ham ⊢
  have hA : ∀ q : Nat, s.heap.size ≤ q → A q := fun q h => by rw [← hAe]; exact h
  have hS : va_S A s.heap s.heap [] := va_S.rf
  have hP : va_P (dC, dI) cls [(h0, .inr (10, [.ref r0, .ref d0, .ref g0, .ref g1, .ref y1, .ref s1, .ref l1, .ref w1])), (r0, .inr (7, [.ref a1, .ref a2, .ref a3, .ref a4, .ref a5, .ref a6, .ref a7, .int 0])), (d0, .inr (2, [.ref b1, .ref b2, .ref b3, .int 0, .int (-1), .int (-1)])), (g0, .inr (4, [.ref f0, .ref n0, .ref y0, .int 0, .int 0, .int 0, .int 45])), (f0, .inr (3, [.ref r0, .ref d0, .ref z1, .ref z2, .ref z3, .ref z4, .ref z5, .int 0, .int 0]))] s.heap := hP
  have hl := lv_entry ([.ref h0, .int p1, .ref u0]) (n := 4) (Nat.le_of_ble_eq_true rfl)
  rw [lg_entry_eq]
  generalize (lg_sl ([.ref h0, .int p1, .ref u0]) ++ List.replicate (4 - (lg_sl ([.ref h0, .int p1, .ref u0])).length) Slot.unset).toArray = ls at hl ⊢
  have hl : lv_has ls 4 [(0, .ref h0), (1, .int p1), (2, .ref u0)] := hl
  refine lv_aload_n hx hb dL_living_0 rfl (lv_at hl 2 rfl) ?_
  refine lv_iconst (v := 0) hx hb dL_living_1 (by decide) ?_
  refine lv_aload_n hx hb dL_living_2 rfl (lv_at hl 0 rfl) ?_
  refine lv_iload_n hx hb dL_living_3 rfl (lv_at hl 1 rfl) ?_
  have hPc := hP.sub (ws' := [(h0, .inr (10, [.ref r0, .ref d0, .ref g0, .ref g1, .ref y1, .ref s1, .ref l1, .ref w1])), (r0, .inr (7, [.ref a1, .ref a2, .ref a3, .ref a4, .ref a5, .ref a6, .ref a7, .int 0])), (d0, .inr (2, [.ref b1, .ref b2, .ref b3, .int 0, .int (-1), .int (-1)])), (g0, .inr (4, [.ref f0, .ref n0, .ref y0, .int 0, .int 0, .int 0, .int 45])), (f0, .inr (3, [.ref r0, .ref d0, .ref z1, .ref z2, .ref z3, .ref z4, .ref z5, .int 0, .int 0]))]) [0, 1, 2, 3, 4] rfl
  have hKc := hK.sub (tys' := []) [] rfl
  refine vx_calli (vx_runV (As := [.int p1]) (rest := [.int 0, .ref u0]) ⟨hx, hb, hml, hown, hq⟩ (c_X_living_no l hst tE adK adV dC dI h0 r0 d0 g0 g1 y1 s1 l1 w1 a1 a2 a3 a4 a5 a6 a7 b1 b2 b3 f0 n0 y0 z1 z2 z3 z4 z5 p1 hok s.heap.size) (tcV 1 hq q_1079 q_1 q_1076 q_1077 q_1078 rfl rfl (by decide +kernel) ⟨Nat.le_of_ble_eq_true rfl, Nat.le_of_ble_eq_true rfl⟩) (preR.V (va_recv hK hP (ci := 10) (q0 := 0) rfl rfl) (preR.of hPc hKc ham hS hA)) rfl rfl hl.1 rfl (lv_room (Nat.le_of_ble_eq_true rfl)) dL_living_4 ⟨Nat.le_of_ble_eq_true rfl, Nat.le_of_ble_eq_true rfl⟩) hS (fun q _ h => hA q (Nat.le_trans hS.1 h)) (fun q h => hA q (Nat.le_trans hS.1 h)) (fun q _ h => hA q (Nat.le_trans hS.1 h)) (fun E ce q9 u t H1 locs ht hvm hpx hB hz1 hk1 hS hce hcv hcl => ?_) (fun r_1 u t H1 locs ht hvm hw hB hz1 hk1 hS => ?_)
  · have hE : E = "java/lang/IllegalArgumentException" := hB
    subst hE
    refine vx_catch (own := RL) (name := "java/lang/IllegalArgumentException") hown [] ⟨0, 9, 12, 13⟩ [] (htab.trans rfl) (fun z hz => by cases hz) (by decide) (by decide) (hq _ q_683) (hq _ q_698) hce hcv hcl ?_
    have hP : va_P (dC, dI) cls [(h0, .inr (10, [.ref r0, .ref d0, .ref g0, .ref g1, .ref y1, .ref s1, .ref l1, .ref w1])), (r0, .inr (7, [.ref a1, .ref a2, .ref a3, .ref a4, .ref a5, .ref a6, .ref a7, .int 0])), (d0, .inr (2, [.ref b1, .ref b2, .ref b3, .int 0, .int (-1), .int (-1)])), (g0, .inr (4, [.ref f0, .ref n0, .ref y0, .int 0, .int 0, .int 0, .int 45])), (f0, .inr (3, [.ref r0, .ref d0, .ref z1, .ref z2, .ref z3, .ref z4, .ref z5, .int 0, .int 0]))] H1 := ro_keep hP hk1
    generalize H1 = H at hP hS ⊢
    refine W.widen (k := 1) (n := 6) (Nat.le_of_ble_eq_true rfl) (Nat.le_of_ble_eq_true rfl) ?_
    refine lv_astore_n (lv' := [(3, .ref q9), (0, .ref h0), (1, .int p1), (2, .ref u0)]) hx hb dL_living_12 rfl hl (by decide) rfl (fun ls hl => ?_)
    refine lv_iconst (v := 1) hx hb dL_living_13 (by decide) ?_
    refine W.widen (k := 1) (n := 6) (Nat.le_of_ble_eq_true rfl) (Nat.le_of_ble_eq_true rfl) ?_
    exact vx_ret (W.iret (v := 1) hx hb hr (fun t ht hW => ⟨⟨1, (), rfl, rfl, trivial⟩, hS.F ht⟩) hS.2.2 dL_living_14)
  · exact (hw : False).elim
