def RL : String := "NightfallVillageLaw"
abbrev cL_seems : ByteArray := method_4_code
def yL_seems : MethodName := ⟨RL, "seems", "(LNightfallVillage;II[J)I"⟩
theorem q_808 : (Cond.codeWith yL_seems cL_seems 5 (some .int) [(0, 10, 13, 23), (0, 10, 17, 15)]) ∈ tw := tw_in (i := 808) (by decide +kernel) (by decide +kernel)
theorem dL_seems_0 : decode cL_seems 0 = .ok (.aload_n 3, 1) := by decide +kernel
theorem dL_seems_1 : decode cL_seems 1 = .ok (.iconst 0, 1) := by decide +kernel
theorem dL_seems_2 : decode cL_seems 2 = .ok (.aload_n 0, 1) := by decide +kernel
theorem dL_seems_3 : decode cL_seems 3 = .ok (.iload_n 1, 1) := by decide +kernel
theorem dL_seems_4 : decode cL_seems 4 = .ok (.iload_n 2, 1) := by decide +kernel
theorem dL_seems_5 : decode cL_seems 5 = .ok (.invokevirtual 19, 3) := by decide +kernel
theorem q_813 : (Cond.code yX10_seems cX10_seems 3 (some .int)) ∈ tw := tw_in (i := 813) (by decide +kernel) (by decide +kernel)
theorem q_810 : (Cond.methodLink "NightfallVillageLaw" 19 yX10_seems) ∈ tw := tw_in (i := 810) (by decide +kernel) (by decide +kernel)
theorem q_811 : (Cond.instanceMethod yX10_seems) ∈ tw := tw_in (i := 811) (by decide +kernel) (by decide +kernel)
theorem q_812 : (Cond.selects "NightfallVillage" yX10_seems yX10_seems) ∈ tw := tw_in (i := 812) (by decide +kernel) (by decide +kernel)
theorem q_809 : (Cond.classLink "NightfallVillageLaw" 23 "java/lang/IndexOutOfBoundsException") ∈ tw := tw_in (i := 809) (by decide +kernel) (by decide +kernel)
theorem q_821 : (Cond.castable "java/lang/IndexOutOfBoundsException" "java/lang/IndexOutOfBoundsException") ∈ tw := tw_in (i := 821) (by decide +kernel) (by decide +kernel)
theorem dL_seems_13 : decode cL_seems 13 = .ok (.astore 4, 2) := by decide +kernel
theorem dL_seems_15 : decode cL_seems 15 = .ok (.iconst 1, 1) := by decide +kernel
theorem dL_seems_16 : decode cL_seems 16 = .ok (.ireturn, 1) := by decide +kernel
set_option maxHeartbeats 4000000 in
set_option maxRecDepth 100000 in
theorem c_L_seems (l : Launch) (hst : l.stackTraces = false) (tE : Nat) (adK adV : Nat → Nat) (dC : Nat → ClassId) (dI : Nat → Nat → Nat) (h0 : Nat) (r0 : Nat) (d0 : Nat) (g0 : Nat) (g1 : Nat) (y1 : Nat) (s1 : Nat) (l1 : Nat) (w1 : Nat) (a1 : Nat) (a2 : Nat) (a3 : Nat) (a4 : Nat) (a5 : Nat) (a6 : Nat) (a7 : Nat) (b1 : Nat) (b2 : Nat) (b3 : Nat) (f0 : Nat) (n0 : Nat) (y0 : Nat) (z1 : Nat) (z2 : Nat) (z3 : Nat) (z4 : Nat) (z5 : Nat) (u0 : Nat) (p1 : Int32) (p2 : Int32) (sz : Nat) : vx_Met l yL_seems (Cond.codeWith yL_seems cL_seems 5 (some .int) [(0, 10, 13, 23), (0, 10, 17, 15)] :: tw) ({ frames := 8, cells := 1, slots := 6, locals := 125 }) (va_Pc [.ref h0, .int p1, .int p2, .ref u0] (preR tE adK adV (dC, dI) [(h0, .inr (10, [.ref r0, .ref d0, .ref g0, .ref g1, .ref y1, .ref s1, .ref l1, .ref w1])), (r0, .inr (7, [.ref a1, .ref a2, .ref a3, .ref a4, .ref a5, .ref a6, .ref a7, .int 0])), (d0, .inr (2, [.ref b1, .ref b2, .ref b3, .int 0, .int (-1), .int (-1)])), (g0, .inr (4, [.ref f0, .ref n0, .ref y0, .int 0, .int 0, .int 0, .int 45])), (f0, .inr (3, [.ref r0, .ref d0, .ref z1, .ref z2, .ref z3, .ref z4, .ref z5, .int 0, .int 0]))] [] sz)) (va_Qi (fun (r : Int32) (_ : Unit) => r = 1) (fun (_ : Unit) (_ : State) => True) (fun q : Nat => sz ≤ q)) (vx_X (fun _ : Unit => True) (fun E (_ : Unit) (_ : State) => False) (fun q : Nat => sz ≤ q)) 1 6 (fun q : Nat => sz ≤ q) := by
  refine vx_ofWH (cc := cL_seems) (maxL := 5) (ret := (some .int)) (hh := [(0, 10, 13, 23), (0, 10, 17, 15)]) (by decide) rfl ?_
  intro p e s m args below meth c s₁ B hml hv
  obtain ⟨rfl, hsz, hP, hK, ham⟩ := hv
  have hx := B.exec
  have hb := B.bytes
  have hr := B.returns
  have hts := atoms_spec B.pre
  have hq : ∀ w ∈ tw, w.before _ s = true := fun w h => hts w (List.mem_cons_of_mem _ h)
  have hown : s.vm.findClass RL = some m.cls := findClass_of_methodNamed B.named
  have hlocks := B.notSynchronized
  have htab := vx_table (x := yL_seems) B (hq _ q_808)
  subst hsz
  generalize hAe : (fun q : Nat => s.heap.size ≤ q) = A at ham ⊢
  have hA : ∀ q : Nat, s.heap.size ≤ q → A q := fun q h => by rw [← hAe]; exact h
  have hS : va_S A s.heap s.heap [] := va_S.rf
  have hP : va_P (dC, dI) cls [(h0, .inr (10, [.ref r0, .ref d0, .ref g0, .ref g1, .ref y1, .ref s1, .ref l1, .ref w1])), (r0, .inr (7, [.ref a1, .ref a2, .ref a3, .ref a4, .ref a5, .ref a6, .ref a7, .int 0])), (d0, .inr (2, [.ref b1, .ref b2, .ref b3, .int 0, .int (-1), .int (-1)])), (g0, .inr (4, [.ref f0, .ref n0, .ref y0, .int 0, .int 0, .int 0, .int 45])), (f0, .inr (3, [.ref r0, .ref d0, .ref z1, .ref z2, .ref z3, .ref z4, .ref z5, .int 0, .int 0]))] s.heap := hP
  have hl := lv_entry ([.ref h0, .int p1, .int p2, .ref u0]) (n := 5) (Nat.le_of_ble_eq_true rfl)
  rw [lg_entry_eq]
  generalize (lg_sl ([.ref h0, .int p1, .int p2, .ref u0]) ++ List.replicate (5 - (lg_sl ([.ref h0, .int p1, .int p2, .ref u0])).length) Slot.unset).toArray = ls at hl ⊢
  have hl : lv_has ls 5 [(0, .ref h0), (1, .int p1), (2, .int p2), (3, .ref u0)] := hl
  refine lv_aload_n hx hb dL_seems_0 rfl (lv_at hl 3 rfl) ?_
  refine lv_iconst (v := 0) hx hb dL_seems_1 (by decide) ?_
  refine lv_aload_n hx hb dL_seems_2 rfl (lv_at hl 0 rfl) ?_
  refine lv_iload_n hx hb dL_seems_3 rfl (lv_at hl 1 rfl) ?_
  refine lv_iload_n hx hb dL_seems_4 rfl (lv_at hl 2 rfl) ?_
  have hPc := hP.sub (ws' := [(h0, .inr (10, [.ref r0, .ref d0, .ref g0, .ref g1, .ref y1, .ref s1, .ref l1, .ref w1])), (r0, .inr (7, [.ref a1, .ref a2, .ref a3, .ref a4, .ref a5, .ref a6, .ref a7, .int 0])), (d0, .inr (2, [.ref b1, .ref b2, .ref b3, .int 0, .int (-1), .int (-1)])), (g0, .inr (4, [.ref f0, .ref n0, .ref y0, .int 0, .int 0, .int 0, .int 45])), (f0, .inr (3, [.ref r0, .ref d0, .ref z1, .ref z2, .ref z3, .ref z4, .ref z5, .int 0, .int 0]))]) [0, 1, 2, 3, 4] rfl
  have hKc := hK.sub (tys' := []) [] rfl
  refine vx_calli (vx_runV (As := [.int p1, .int p2]) (rest := [.int 0, .ref u0]) ⟨hx, hb, hml, hown, hq⟩ (c_X_seems l hst tE adK adV dC dI h0 r0 d0 g0 g1 y1 s1 l1 w1 a1 a2 a3 a4 a5 a6 a7 b1 b2 b3 f0 n0 y0 z1 z2 z3 z4 z5 p1 p2 s.heap.size) (tcV 2 hq q_813 q_1 q_810 q_811 q_812 rfl rfl (by decide +kernel) ⟨Nat.le_of_ble_eq_true rfl, Nat.le_of_ble_eq_true rfl⟩) (preR.V (va_recv hK hP (ci := 10) (q0 := 0) rfl rfl) (preR.of hPc hKc ham hS hA)) rfl rfl hl.1 rfl (lv_room (Nat.le_of_ble_eq_true rfl)) dL_seems_5 ⟨Nat.le_of_ble_eq_true rfl, Nat.le_of_ble_eq_true rfl⟩) hS (fun q _ h => hA q (Nat.le_trans hS.1 h)) (fun q h => hA q (Nat.le_trans hS.1 h)) (fun q _ h => hA q (Nat.le_trans hS.1 h)) (fun E ce q9 u t H1 locs ht hvm hpx hB hz1 hk1 hS hce hcv hcl => ?_) (fun r_1 u t H1 locs ht hvm hw hB hz1 hk1 hS => ?_)
  · have hE : E = "java/lang/IndexOutOfBoundsException" := hB
    subst hE
    refine vx_catch (own := RL) (name := "java/lang/IndexOutOfBoundsException") hown [] ⟨0, 10, 13, 23⟩ [⟨0, 10, 17, 15⟩] (htab.trans rfl) (fun z hz => by cases hz) (by decide) (by decide) (hq _ q_809) (hq _ q_821) hce hcv hcl ?_
    have hP : va_P (dC, dI) cls [(h0, .inr (10, [.ref r0, .ref d0, .ref g0, .ref g1, .ref y1, .ref s1, .ref l1, .ref w1])), (r0, .inr (7, [.ref a1, .ref a2, .ref a3, .ref a4, .ref a5, .ref a6, .ref a7, .int 0])), (d0, .inr (2, [.ref b1, .ref b2, .ref b3, .int 0, .int (-1), .int (-1)])), (g0, .inr (4, [.ref f0, .ref n0, .ref y0, .int 0, .int 0, .int 0, .int 45])), (f0, .inr (3, [.ref r0, .ref d0, .ref z1, .ref z2, .ref z3, .ref z4, .ref z5, .int 0, .int 0]))] H1 := ro_keep hP hk1
    generalize H1 = H at hP hS ⊢
    refine W.widen (k := 1) (n := 6) (Nat.le_of_ble_eq_true rfl) (Nat.le_of_ble_eq_true rfl) ?_
    refine lv_astore (lv' := [(4, .ref q9), (0, .ref h0), (1, .int p1), (2, .int p2), (3, .ref u0)]) hx hb dL_seems_13 hl (by decide) rfl (fun ls hl => ?_)
    refine lv_iconst (v := 1) hx hb dL_seems_15 (by decide) ?_
    refine W.widen (k := 1) (n := 6) (Nat.le_of_ble_eq_true rfl) (Nat.le_of_ble_eq_true rfl) ?_
    exact vx_ret (W.iret (v := 1) hx hb hr (fun t ht hW => ⟨⟨1, (), rfl, rfl, trivial⟩, hS.F ht⟩) hS.2.2 dL_seems_16)
  · exact (hw : False).elim
abbrev cL_seat : ByteArray := method_5_code
def yL_seat : MethodName := ⟨RL, "seat", "(LNightfallVillage;I[J)I"⟩
theorem q_841 : (Cond.codeWith yL_seat cL_seat 4 (some .int) [(0, 9, 12, 23), (0, 9, 15, 15), (0, 9, 18, 17)]) ∈ tw := tw_in (i := 841) (by decide +kernel) (by decide +kernel)
theorem dL_seat_0 : decode cL_seat 0 = .ok (.aload_n 2, 1) := by decide +kernel
theorem dL_seat_1 : decode cL_seat 1 = .ok (.iconst 0, 1) := by decide +kernel
theorem dL_seat_2 : decode cL_seat 2 = .ok (.aload_n 0, 1) := by decide +kernel
theorem dL_seat_3 : decode cL_seat 3 = .ok (.iload_n 1, 1) := by decide +kernel
theorem dL_seat_4 : decode cL_seat 4 = .ok (.invokevirtual 25, 3) := by decide +kernel
theorem q_845 : (Cond.code yX10_seat cX10_seat 3 (some .int)) ∈ tw := tw_in (i := 845) (by decide +kernel) (by decide +kernel)
theorem q_842 : (Cond.methodLink "NightfallVillageLaw" 25 yX10_seat) ∈ tw := tw_in (i := 842) (by decide +kernel) (by decide +kernel)
theorem q_843 : (Cond.instanceMethod yX10_seat) ∈ tw := tw_in (i := 843) (by decide +kernel) (by decide +kernel)
theorem q_844 : (Cond.selects "NightfallVillage" yX10_seat yX10_seat) ∈ tw := tw_in (i := 844) (by decide +kernel) (by decide +kernel)
theorem dL_seat_12 : decode cL_seat 12 = .ok (.astore_n 3, 1) := by decide +kernel
theorem dL_seat_13 : decode cL_seat 13 = .ok (.iconst 1, 1) := by decide +kernel
theorem dL_seat_14 : decode cL_seat 14 = .ok (.ireturn, 1) := by decide +kernel
set_option maxHeartbeats 4000000 in
set_option maxRecDepth 100000 in
theorem c_L_seat (l : Launch) (hst : l.stackTraces = false) (tE : Nat) (adK adV : Nat → Nat) (dC : Nat → ClassId) (dI : Nat → Nat → Nat) (h0 : Nat) (r0 : Nat) (d0 : Nat) (g0 : Nat) (g1 : Nat) (y1 : Nat) (s1 : Nat) (l1 : Nat) (w1 : Nat) (a1 : Nat) (a2 : Nat) (a3 : Nat) (a4 : Nat) (a5 : Nat) (a6 : Nat) (a7 : Nat) (b1 : Nat) (b2 : Nat) (b3 : Nat) (f0 : Nat) (n0 : Nat) (y0 : Nat) (z1 : Nat) (z2 : Nat) (z3 : Nat) (z4 : Nat) (z5 : Nat) (u0 : Nat) (p1 : Int32) (sz : Nat) : vx_Met l yL_seat (Cond.codeWith yL_seat cL_seat 4 (some .int) [(0, 9, 12, 23), (0, 9, 15, 15), (0, 9, 18, 17)] :: tw) ({ frames := 8, cells := 1, slots := 6, locals := 125 }) (va_Pc [.ref h0, .int p1, .ref u0] (preR tE adK adV (dC, dI) [(h0, .inr (10, [.ref r0, .ref d0, .ref g0, .ref g1, .ref y1, .ref s1, .ref l1, .ref w1])), (r0, .inr (7, [.ref a1, .ref a2, .ref a3, .ref a4, .ref a5, .ref a6, .ref a7, .int 0])), (d0, .inr (2, [.ref b1, .ref b2, .ref b3, .int 0, .int (-1), .int (-1)])), (g0, .inr (4, [.ref f0, .ref n0, .ref y0, .int 0, .int 0, .int 0, .int 45])), (f0, .inr (3, [.ref r0, .ref d0, .ref z1, .ref z2, .ref z3, .ref z4, .ref z5, .int 0, .int 0]))] [] sz)) (va_Qi (fun (r : Int32) (_ : Unit) => r = 1) (fun (_ : Unit) (_ : State) => True) (fun q : Nat => sz ≤ q)) (vx_X (fun _ : Unit => True) (fun E (_ : Unit) (_ : State) => False) (fun q : Nat => sz ≤ q)) 1 6 (fun q : Nat => sz ≤ q) := by
  refine vx_ofWH (cc := cL_seat) (maxL := 4) (ret := (some .int)) (hh := [(0, 9, 12, 23), (0, 9, 15, 15), (0, 9, 18, 17)]) (by decide) rfl ?_
  intro p e s m args below meth c s₁ B hml hv
  obtain ⟨rfl, hsz, hP, hK, ham⟩ := hv
  have hx := B.exec
  have hb := B.bytes
  have hr := B.returns
  have hts := atoms_spec B.pre
  have hq : ∀ w ∈ tw, w.before _ s = true := fun w h => hts w (List.mem_cons_of_mem _ h)
  have hown : s.vm.findClass RL = some m.cls := findClass_of_methodNamed B.named
  have hlocks := B.notSynchronized
  have htab := vx_table (x := yL_seat) B (hq _ q_841)
  subst hsz
  generalize hAe : (fun q : Nat => s.heap.size ≤ q) = A at ham ⊢
  have hA : ∀ q : Nat, s.heap.size ≤ q → A q := fun q h => by rw [← hAe]; exact h
  have hS : va_S A s.heap s.heap [] := va_S.rf
  have hP : va_P (dC, dI) cls [(h0, .inr (10, [.ref r0, .ref d0, .ref g0, .ref g1, .ref y1, .ref s1, .ref l1, .ref w1])), (r0, .inr (7, [.ref a1, .ref a2, .ref a3, .ref a4, .ref a5, .ref a6, .ref a7, .int 0])), (d0, .inr (2, [.ref b1, .ref b2, .ref b3, .int 0, .int (-1), .int (-1)])), (g0, .inr (4, [.ref f0, .ref n0, .ref y0, .int 0, .int 0, .int 0, .int 45])), (f0, .inr (3, [.ref r0, .ref d0, .ref z1, .ref z2, .ref z3, .ref z4, .ref z5, .int 0, .int 0]))] s.heap := hP
  have hl := lv_entry ([.ref h0, .int p1, .ref u0]) (n := 4) (Nat.le_of_ble_eq_true rfl)
  rw [lg_entry_eq]
  generalize (lg_sl ([.ref h0, .int p1, .ref u0]) ++ List.replicate (4 - (lg_sl ([.ref h0, .int p1, .ref u0])).length) Slot.unset).toArray = ls at hl ⊢
  have hl : lv_has ls 4 [(0, .ref h0), (1, .int p1), (2, .ref u0)] := hl
  refine lv_aload_n hx hb dL_seat_0 rfl (lv_at hl 2 rfl) ?_
  refine lv_iconst (v := 0) hx hb dL_seat_1 (by decide) ?_
  refine lv_aload_n hx hb dL_seat_2 rfl (lv_at hl 0 rfl) ?_
  refine lv_iload_n hx hb dL_seat_3 rfl (lv_at hl 1 rfl) ?_
  have hPc := hP.sub (ws' := [(h0, .inr (10, [.ref r0, .ref d0, .ref g0, .ref g1, .ref y1, .ref s1, .ref l1, .ref w1])), (r0, .inr (7, [.ref a1, .ref a2, .ref a3, .ref a4, .ref a5, .ref a6, .ref a7, .int 0])), (d0, .inr (2, [.ref b1, .ref b2, .ref b3, .int 0, .int (-1), .int (-1)])), (g0, .inr (4, [.ref f0, .ref n0, .ref y0, .int 0, .int 0, .int 0, .int 45])), (f0, .inr (3, [.ref r0, .ref d0, .ref z1, .ref z2, .ref z3, .ref z4, .ref z5, .int 0, .int 0]))]) [0, 1, 2, 3, 4] rfl
  have hKc := hK.sub (tys' := []) [] rfl
  refine vx_calli (vx_runV (As := [.int p1]) (rest := [.int 0, .ref u0]) ⟨hx, hb, hml, hown, hq⟩ (c_X_seat l hst tE adK adV dC dI h0 r0 d0 g0 g1 y1 s1 l1 w1 a1 a2 a3 a4 a5 a6 a7 b1 b2 b3 f0 n0 y0 z1 z2 z3 z4 z5 p1 s.heap.size) (tcV 1 hq q_845 q_1 q_842 q_843 q_844 rfl rfl (by decide +kernel) ⟨Nat.le_of_ble_eq_true rfl, Nat.le_of_ble_eq_true rfl⟩) (preR.V (va_recv hK hP (ci := 10) (q0 := 0) rfl rfl) (preR.of hPc hKc ham hS hA)) rfl rfl hl.1 rfl (lv_room (Nat.le_of_ble_eq_true rfl)) dL_seat_4 ⟨Nat.le_of_ble_eq_true rfl, Nat.le_of_ble_eq_true rfl⟩) hS (fun q _ h => hA q (Nat.le_trans hS.1 h)) (fun q h => hA q (Nat.le_trans hS.1 h)) (fun q _ h => hA q (Nat.le_trans hS.1 h)) (fun E ce q9 u t H1 locs ht hvm hpx hB hz1 hk1 hS hce hcv hcl => ?_) (fun r_1 u t H1 locs ht hvm hw hB hz1 hk1 hS => ?_)
  · have hE : E = "java/lang/IndexOutOfBoundsException" := hB
    subst hE
    refine vx_catch (own := RL) (name := "java/lang/IndexOutOfBoundsException") hown [] ⟨0, 9, 12, 23⟩ [⟨0, 9, 15, 15⟩, ⟨0, 9, 18, 17⟩] (htab.trans rfl) (fun z hz => by cases hz) (by decide) (by decide) (hq _ q_809) (hq _ q_821) hce hcv hcl ?_
    have hP : va_P (dC, dI) cls [(h0, .inr (10, [.ref r0, .ref d0, .ref g0, .ref g1, .ref y1, .ref s1, .ref l1, .ref w1])), (r0, .inr (7, [.ref a1, .ref a2, .ref a3, .ref a4, .ref a5, .ref a6, .ref a7, .int 0])), (d0, .inr (2, [.ref b1, .ref b2, .ref b3, .int 0, .int (-1), .int (-1)])), (g0, .inr (4, [.ref f0, .ref n0, .ref y0, .int 0, .int 0, .int 0, .int 45])), (f0, .inr (3, [.ref r0, .ref d0, .ref z1, .ref z2, .ref z3, .ref z4, .ref z5, .int 0, .int 0]))] H1 := ro_keep hP hk1
    generalize H1 = H at hP hS ⊢
    refine W.widen (k := 1) (n := 6) (Nat.le_of_ble_eq_true rfl) (Nat.le_of_ble_eq_true rfl) ?_
    refine lv_astore_n (lv' := [(3, .ref q9), (0, .ref h0), (1, .int p1), (2, .ref u0)]) hx hb dL_seat_12 rfl hl (by decide) rfl (fun ls hl => ?_)
    refine lv_iconst (v := 1) hx hb dL_seat_13 (by decide) ?_
    refine W.widen (k := 1) (n := 6) (Nat.le_of_ble_eq_true rfl) (Nat.le_of_ble_eq_true rfl) ?_
    exact vx_ret (W.iret (v := 1) hx hb hr (fun t ht hW => ⟨⟨1, (), rfl, rfl, trivial⟩, hS.F ht⟩) hS.2.2 dL_seat_14)
  · exact (hw : False).elim
abbrev cL_lovers : ByteArray := method_6_code
def yL_lovers : MethodName := ⟨RL, "lovers", "(LNightfallVillage;II[J)I"⟩
theorem q_854 : (Cond.codeWith yL_lovers cL_lovers 5 (some .int) [(0, 17, 20, 23), (0, 17, 24, 13), (0, 17, 28, 15)]) ∈ tw := tw_in (i := 854) (by decide +kernel) (by decide +kernel)
theorem dL_lovers_0 : decode cL_lovers 0 = .ok (.aload_n 3, 1) := by decide +kernel
theorem dL_lovers_1 : decode cL_lovers 1 = .ok (.iconst 0, 1) := by decide +kernel
theorem dL_lovers_2 : decode cL_lovers 2 = .ok (.aload_n 0, 1) := by decide +kernel
theorem dL_lovers_3 : decode cL_lovers 3 = .ok (.iload_n 1, 1) := by decide +kernel
theorem dL_lovers_4 : decode cL_lovers 4 = .ok (.iload_n 2, 1) := by decide +kernel
theorem dL_lovers_5 : decode cL_lovers 5 = .ok (.invokevirtual 29, 3) := by decide +kernel
theorem q_858 : (Cond.code yX10_lovers cX10_lovers 3 (some .boolean)) ∈ tw := tw_in (i := 858) (by decide +kernel) (by decide +kernel)
theorem q_855 : (Cond.methodLink "NightfallVillageLaw" 29 yX10_lovers) ∈ tw := tw_in (i := 855) (by decide +kernel) (by decide +kernel)
theorem q_856 : (Cond.instanceMethod yX10_lovers) ∈ tw := tw_in (i := 856) (by decide +kernel) (by decide +kernel)
theorem q_857 : (Cond.selects "NightfallVillage" yX10_lovers yX10_lovers) ∈ tw := tw_in (i := 857) (by decide +kernel) (by decide +kernel)
theorem dL_lovers_20 : decode cL_lovers 20 = .ok (.astore 4, 2) := by decide +kernel
theorem dL_lovers_22 : decode cL_lovers 22 = .ok (.iconst 1, 1) := by decide +kernel
theorem dL_lovers_23 : decode cL_lovers 23 = .ok (.ireturn, 1) := by decide +kernel
set_option maxHeartbeats 4000000 in
set_option maxRecDepth 100000 in
theorem c_L_lovers (l : Launch) (hst : l.stackTraces = false) (tE : Nat) (adK adV : Nat → Nat) (dC : Nat → ClassId) (dI : Nat → Nat → Nat) (h0 : Nat) (r0 : Nat) (d0 : Nat) (g0 : Nat) (g1 : Nat) (y1 : Nat) (s1 : Nat) (l1 : Nat) (w1 : Nat) (a1 : Nat) (a2 : Nat) (a3 : Nat) (a4 : Nat) (a5 : Nat) (a6 : Nat) (a7 : Nat) (b1 : Nat) (b2 : Nat) (b3 : Nat) (f0 : Nat) (n0 : Nat) (y0 : Nat) (z1 : Nat) (z2 : Nat) (z3 : Nat) (z4 : Nat) (z5 : Nat) (u0 : Nat) (p1 : Int32) (p2 : Int32) (sz : Nat) : vx_Met l yL_lovers (Cond.codeWith yL_lovers cL_lovers 5 (some .int) [(0, 17, 20, 23), (0, 17, 24, 13), (0, 17, 28, 15)] :: tw) ({ frames := 9, cells := 1, slots := 6, locals := 147 }) (va_Pc [.ref h0, .int p1, .int p2, .ref u0] (preR tE adK adV (dC, dI) [(h0, .inr (10, [.ref r0, .ref d0, .ref g0, .ref g1, .ref y1, .ref s1, .ref l1, .ref w1])), (r0, .inr (7, [.ref a1, .ref a2, .ref a3, .ref a4, .ref a5, .ref a6, .ref a7, .int 0])), (d0, .inr (2, [.ref b1, .ref b2, .ref b3, .int 0, .int (-1), .int (-1)])), (g0, .inr (4, [.ref f0, .ref n0, .ref y0, .int 0, .int 0, .int 0, .int 45])), (f0, .inr (3, [.ref r0, .ref d0, .ref z1, .ref z2, .ref z3, .ref z4, .ref z5, .int 0, .int 0]))] [] sz)) (va_Qi (fun (r : Int32) (_ : Unit) => r = 1) (fun (_ : Unit) (_ : State) => True) (fun q : Nat => sz ≤ q)) (vx_X (fun _ : Unit => True) (fun E (_ : Unit) (_ : State) => False) (fun q : Nat => sz ≤ q)) 1 6 (fun q : Nat => sz ≤ q) := by
  refine vx_ofWH (cc := cL_lovers) (maxL := 5) (ret := (some .int)) (hh := [(0, 17, 20, 23), (0, 17, 24, 13), (0, 17, 28, 15)]) (by decide) rfl ?_
  intro p e s m args below meth c s₁ B hml hv
  obtain ⟨rfl, hsz, hP, hK, ham⟩ := hv
  have hx := B.exec
  have hb := B.bytes
  have hr := B.returns
  have hts := atoms_spec B.pre
  have hq : ∀ w ∈ tw, w.before _ s = true := fun w h => hts w (List.mem_cons_of_mem _ h)
  have hown : s.vm.findClass RL = some m.cls := findClass_of_methodNamed B.named
  have hlocks := B.notSynchronized
  have htab := vx_table (x := yL_lovers) B (hq _ q_854)
  subst hsz
  generalize hAe : (fun q : Nat => s.heap.size ≤ q) = A at ham ⊢
  have hA : ∀ q : Nat, s.heap.size ≤ q → A q := fun q h => by rw [← hAe]; exact h
  have hS : va_S A s.heap s.heap [] := va_S.rf
  have hP : va_P (dC, dI) cls [(h0, .inr (10, [.ref r0, .ref d0, .ref g0, .ref g1, .ref y1, .ref s1, .ref l1, .ref w1])), (r0, .inr (7, [.ref a1, .ref a2, .ref a3, .ref a4, .ref a5, .ref a6, .ref a7, .int 0])), (d0, .inr (2, [.ref b1, .ref b2, .ref b3, .int 0, .int (-1), .int (-1)])), (g0, .inr (4, [.ref f0, .ref n0, .ref y0, .int 0, .int 0, .int 0, .int 45])), (f0, .inr (3, [.ref r0, .ref d0, .ref z1, .ref z2, .ref z3, .ref z4, .ref z5, .int 0, .int 0]))] s.heap := hP
  have hl := lv_entry ([.ref h0, .int p1, .int p2, .ref u0]) (n := 5) (Nat.le_of_ble_eq_true rfl)
  rw [lg_entry_eq]
  generalize (lg_sl ([.ref h0, .int p1, .int p2, .ref u0]) ++ List.replicate (5 - (lg_sl ([.ref h0, .int p1, .int p2, .ref u0])).length) Slot.unset).toArray = ls at hl ⊢
  have hl : lv_has ls 5 [(0, .ref h0), (1, .int p1), (2, .int p2), (3, .ref u0)] := hl
  refine lv_aload_n hx hb dL_lovers_0 rfl (lv_at hl 3 rfl) ?_
  refine lv_iconst (v := 0) hx hb dL_lovers_1 (by decide) ?_
  refine lv_aload_n hx hb dL_lovers_2 rfl (lv_at hl 0 rfl) ?_
  refine lv_iload_n hx hb dL_lovers_3 rfl (lv_at hl 1 rfl) ?_
  refine lv_iload_n hx hb dL_lovers_4 rfl (lv_at hl 2 rfl) ?_
  have hPc := hP.sub (ws' := [(h0, .inr (10, [.ref r0, .ref d0, .ref g0, .ref g1, .ref y1, .ref s1, .ref l1, .ref w1])), (r0, .inr (7, [.ref a1, .ref a2, .ref a3, .ref a4, .ref a5, .ref a6, .ref a7, .int 0])), (d0, .inr (2, [.ref b1, .ref b2, .ref b3, .int 0, .int (-1), .int (-1)])), (g0, .inr (4, [.ref f0, .ref n0, .ref y0, .int 0, .int 0, .int 0, .int 45])), (f0, .inr (3, [.ref r0, .ref d0, .ref z1, .ref z2, .ref z3, .ref z4, .ref z5, .int 0, .int 0]))]) [0, 1, 2, 3, 4] rfl
  have hKc := hK.sub (tys' := []) [] rfl
  refine vx_calli (vx_runV (As := [.int p1, .int p2]) (rest := [.int 0, .ref u0]) ⟨hx, hb, hml, hown, hq⟩ (c_X_lovers l hst tE adK adV dC dI h0 r0 d0 g0 g1 y1 s1 l1 w1 a1 a2 a3 a4 a5 a6 a7 b1 b2 b3 f0 n0 y0 z1 z2 z3 z4 z5 p1 p2 s.heap.size) (tcV 2 hq q_858 q_1 q_855 q_856 q_857 rfl rfl (by decide +kernel) ⟨Nat.le_of_ble_eq_true rfl, Nat.le_of_ble_eq_true rfl⟩) (preR.V (va_recv hK hP (ci := 10) (q0 := 0) rfl rfl) (preR.of hPc hKc ham hS hA)) rfl rfl hl.1 rfl (lv_room (Nat.le_of_ble_eq_true rfl)) dL_lovers_5 ⟨Nat.le_of_ble_eq_true rfl, Nat.le_of_ble_eq_true rfl⟩) hS (fun q _ h => hA q (Nat.le_trans hS.1 h)) (fun q h => hA q (Nat.le_trans hS.1 h)) (fun q _ h => hA q (Nat.le_trans hS.1 h)) (fun E ce q9 u t H1 locs ht hvm hpx hB hz1 hk1 hS hce hcv hcl => ?_) (fun r_1 u t H1 locs ht hvm hw hB hz1 hk1 hS => ?_)
  · have hE : E = "java/lang/IndexOutOfBoundsException" := hB
    subst hE
    refine vx_catch (own := RL) (name := "java/lang/IndexOutOfBoundsException") hown [] ⟨0, 17, 20, 23⟩ [⟨0, 17, 24, 13⟩, ⟨0, 17, 28, 15⟩] (htab.trans rfl) (fun z hz => by cases hz) (by decide) (by decide) (hq _ q_809) (hq _ q_821) hce hcv hcl ?_
    have hP : va_P (dC, dI) cls [(h0, .inr (10, [.ref r0, .ref d0, .ref g0, .ref g1, .ref y1, .ref s1, .ref l1, .ref w1])), (r0, .inr (7, [.ref a1, .ref a2, .ref a3, .ref a4, .ref a5, .ref a6, .ref a7, .int 0])), (d0, .inr (2, [.ref b1, .ref b2, .ref b3, .int 0, .int (-1), .int (-1)])), (g0, .inr (4, [.ref f0, .ref n0, .ref y0, .int 0, .int 0, .int 0, .int 45])), (f0, .inr (3, [.ref r0, .ref d0, .ref z1, .ref z2, .ref z3, .ref z4, .ref z5, .int 0, .int 0]))] H1 := ro_keep hP hk1
    generalize H1 = H at hP hS ⊢
    refine W.widen (k := 1) (n := 6) (Nat.le_of_ble_eq_true rfl) (Nat.le_of_ble_eq_true rfl) ?_
    refine lv_astore (lv' := [(4, .ref q9), (0, .ref h0), (1, .int p1), (2, .int p2), (3, .ref u0)]) hx hb dL_lovers_20 hl (by decide) rfl (fun ls hl => ?_)
    refine lv_iconst (v := 1) hx hb dL_lovers_22 (by decide) ?_
    refine W.widen (k := 1) (n := 6) (Nat.le_of_ble_eq_true rfl) (Nat.le_of_ble_eq_true rfl) ?_
    exact vx_ret (W.iret (v := 1) hx hb hr (fun t ht hW => ⟨⟨1, (), rfl, rfl, trivial⟩, hS.F ht⟩) hS.2.2 dL_lovers_23)
  · exact (hw : False).elim
abbrev cL_mark : ByteArray := method_7_code
def yL_mark : MethodName := ⟨RL, "mark", "(LNightfallVillage;II[J)I"⟩
theorem q_876 : (Cond.codeWith yL_mark cL_mark 5 (some .int) [(0, 10, 13, 23), (0, 10, 17, 13), (0, 10, 21, 15)]) ∈ tw := tw_in (i := 876) (by decide +kernel) (by decide +kernel)
theorem dL_mark_0 : decode cL_mark 0 = .ok (.aload_n 3, 1) := by decide +kernel
theorem dL_mark_1 : decode cL_mark 1 = .ok (.iconst 0, 1) := by decide +kernel
theorem dL_mark_2 : decode cL_mark 2 = .ok (.aload_n 0, 1) := by decide +kernel
theorem dL_mark_3 : decode cL_mark 3 = .ok (.iload_n 1, 1) := by decide +kernel
theorem dL_mark_4 : decode cL_mark 4 = .ok (.iload_n 2, 1) := by decide +kernel
theorem dL_mark_5 : decode cL_mark 5 = .ok (.invokevirtual 33, 3) := by decide +kernel
theorem q_880 : (Cond.code yX10_mark cX10_mark 3 (some .int)) ∈ tw := tw_in (i := 880) (by decide +kernel) (by decide +kernel)
theorem q_877 : (Cond.methodLink "NightfallVillageLaw" 33 yX10_mark) ∈ tw := tw_in (i := 877) (by decide +kernel) (by decide +kernel)
theorem q_878 : (Cond.instanceMethod yX10_mark) ∈ tw := tw_in (i := 878) (by decide +kernel) (by decide +kernel)
theorem q_879 : (Cond.selects "NightfallVillage" yX10_mark yX10_mark) ∈ tw := tw_in (i := 879) (by decide +kernel) (by decide +kernel)
theorem dL_mark_13 : decode cL_mark 13 = .ok (.astore 4, 2) := by decide +kernel
theorem dL_mark_15 : decode cL_mark 15 = .ok (.iconst 1, 1) := by decide +kernel
theorem dL_mark_16 : decode cL_mark 16 = .ok (.ireturn, 1) := by decide +kernel
set_option maxHeartbeats 4000000 in
set_option maxRecDepth 100000 in
theorem c_L_mark (l : Launch) (hst : l.stackTraces = false) (tE : Nat) (adK adV : Nat → Nat) (dC : Nat → ClassId) (dI : Nat → Nat → Nat) (h0 : Nat) (r0 : Nat) (d0 : Nat) (g0 : Nat) (g1 : Nat) (y1 : Nat) (s1 : Nat) (l1 : Nat) (w1 : Nat) (a1 : Nat) (a2 : Nat) (a3 : Nat) (a4 : Nat) (a5 : Nat) (a6 : Nat) (a7 : Nat) (b1 : Nat) (b2 : Nat) (b3 : Nat) (f0 : Nat) (n0 : Nat) (y0 : Nat) (z1 : Nat) (z2 : Nat) (z3 : Nat) (z4 : Nat) (z5 : Nat) (u0 : Nat) (p1 : Int32) (p2 : Int32) (sz : Nat) : vx_Met l yL_mark (Cond.codeWith yL_mark cL_mark 5 (some .int) [(0, 10, 13, 23), (0, 10, 17, 13), (0, 10, 21, 15)] :: tw) ({ frames := 9, cells := 1, slots := 6, locals := 147 }) (va_Pc [.ref h0, .int p1, .int p2, .ref u0] (preR tE adK adV (dC, dI) [(h0, .inr (10, [.ref r0, .ref d0, .ref g0, .ref g1, .ref y1, .ref s1, .ref l1, .ref w1])), (r0, .inr (7, [.ref a1, .ref a2, .ref a3, .ref a4, .ref a5, .ref a6, .ref a7, .int 0])), (d0, .inr (2, [.ref b1, .ref b2, .ref b3, .int 0, .int (-1), .int (-1)])), (g0, .inr (4, [.ref f0, .ref n0, .ref y0, .int 0, .int 0, .int 0, .int 45])), (f0, .inr (3, [.ref r0, .ref d0, .ref z1, .ref z2, .ref z3, .ref z4, .ref z5, .int 0, .int 0]))] [] sz)) (va_Qi (fun (r : Int32) (_ : Unit) => r = 1) (fun (_ : Unit) (_ : State) => True) (fun q : Nat => sz ≤ q)) (vx_X (fun _ : Unit => True) (fun E (_ : Unit) (_ : State) => False) (fun q : Nat => sz ≤ q)) 1 6 (fun q : Nat => sz ≤ q) := by
  refine vx_ofWH (cc := cL_mark) (maxL := 5) (ret := (some .int)) (hh := [(0, 10, 13, 23), (0, 10, 17, 13), (0, 10, 21, 15)]) (by decide) rfl ?_
  intro p e s m args below meth c s₁ B hml hv
  obtain ⟨rfl, hsz, hP, hK, ham⟩ := hv
  have hx := B.exec
  have hb := B.bytes
  have hr := B.returns
  have hts := atoms_spec B.pre
  have hq : ∀ w ∈ tw, w.before _ s = true := fun w h => hts w (List.mem_cons_of_mem _ h)
  have hown : s.vm.findClass RL = some m.cls := findClass_of_methodNamed B.named
  have hlocks := B.notSynchronized
  have htab := vx_table (x := yL_mark) B (hq _ q_876)
  subst hsz
  generalize hAe : (fun q : Nat => s.heap.size ≤ q) = A at ham ⊢
  have hA : ∀ q : Nat, s.heap.size ≤ q → A q := fun q h => by rw [← hAe]; exact h
  have hS : va_S A s.heap s.heap [] := va_S.rf
  have hP : va_P (dC, dI) cls [(h0, .inr (10, [.ref r0, .ref d0, .ref g0, .ref g1, .ref y1, .ref s1, .ref l1, .ref w1])), (r0, .inr (7, [.ref a1, .ref a2, .ref a3, .ref a4, .ref a5, .ref a6, .ref a7, .int 0])), (d0, .inr (2, [.ref b1, .ref b2, .ref b3, .int 0, .int (-1), .int (-1)])), (g0, .inr (4, [.ref f0, .ref n0, .ref y0, .int 0, .int 0, .int 0, .int 45])), (f0, .inr (3, [.ref r0, .ref d0, .ref z1, .ref z2, .ref z3, .ref z4, .ref z5, .int 0, .int 0]))] s.heap := hP
  have hl := lv_entry ([.ref h0, .int p1, .int p2, .ref u0]) (n := 5) (Nat.le_of_ble_eq_true rfl)
  rw [lg_entry_eq]
  generalize (lg_sl ([.ref h0, .int p1, .int p2, .ref u0]) ++ List.replicate (5 - (lg_sl ([.ref h0, .int p1, .int p2, .ref u0])).length) Slot.unset).toArray = ls at hl ⊢
  have hl : lv_has ls 5 [(0, .ref h0), (1, .int p1), (2, .int p2), (3, .ref u0)] := hl
  refine lv_aload_n hx hb dL_mark_0 rfl (lv_at hl 3 rfl) ?_
  refine lv_iconst (v := 0) hx hb dL_mark_1 (by decide) ?_
  refine lv_aload_n hx hb dL_mark_2 rfl (lv_at hl 0 rfl) ?_
  refine lv_iload_n hx hb dL_mark_3 rfl (lv_at hl 1 rfl) ?_
  refine lv_iload_n hx hb dL_mark_4 rfl (lv_at hl 2 rfl) ?_
  have hPc := hP.sub (ws' := [(h0, .inr (10, [.ref r0, .ref d0, .ref g0, .ref g1, .ref y1, .ref s1, .ref l1, .ref w1])), (r0, .inr (7, [.ref a1, .ref a2, .ref a3, .ref a4, .ref a5, .ref a6, .ref a7, .int 0])), (d0, .inr (2, [.ref b1, .ref b2, .ref b3, .int 0, .int (-1), .int (-1)])), (g0, .inr (4, [.ref f0, .ref n0, .ref y0, .int 0, .int 0, .int 0, .int 45])), (f0, .inr (3, [.ref r0, .ref d0, .ref z1, .ref z2, .ref z3, .ref z4, .ref z5, .int 0, .int 0]))]) [0, 1, 2, 3, 4] rfl
  have hKc := hK.sub (tys' := []) [] rfl
  refine vx_calli (vx_runV (As := [.int p1, .int p2]) (rest := [.int 0, .ref u0]) ⟨hx, hb, hml, hown, hq⟩ (c_X_mark l hst tE adK adV dC dI h0 r0 d0 g0 g1 y1 s1 l1 w1 a1 a2 a3 a4 a5 a6 a7 b1 b2 b3 f0 n0 y0 z1 z2 z3 z4 z5 p1 p2 s.heap.size) (tcV 2 hq q_880 q_1 q_877 q_878 q_879 rfl rfl (by decide +kernel) ⟨Nat.le_of_ble_eq_true rfl, Nat.le_of_ble_eq_true rfl⟩) (preR.V (va_recv hK hP (ci := 10) (q0 := 0) rfl rfl) (preR.of hPc hKc ham hS hA)) rfl rfl hl.1 rfl (lv_room (Nat.le_of_ble_eq_true rfl)) dL_mark_5 ⟨Nat.le_of_ble_eq_true rfl, Nat.le_of_ble_eq_true rfl⟩) hS (fun q _ h => hA q (Nat.le_trans hS.1 h)) (fun q h => hA q (Nat.le_trans hS.1 h)) (fun q _ h => hA q (Nat.le_trans hS.1 h)) (fun E ce q9 u t H1 locs ht hvm hpx hB hz1 hk1 hS hce hcv hcl => ?_) (fun r_1 u t H1 locs ht hvm hw hB hz1 hk1 hS => ?_)
  · have hE : E = "java/lang/IndexOutOfBoundsException" := hB
    subst hE
    refine vx_catch (own := RL) (name := "java/lang/IndexOutOfBoundsException") hown [] ⟨0, 10, 13, 23⟩ [⟨0, 10, 17, 13⟩, ⟨0, 10, 21, 15⟩] (htab.trans rfl) (fun z hz => by cases hz) (by decide) (by decide) (hq _ q_809) (hq _ q_821) hce hcv hcl ?_
    have hP : va_P (dC, dI) cls [(h0, .inr (10, [.ref r0, .ref d0, .ref g0, .ref g1, .ref y1, .ref s1, .ref l1, .ref w1])), (r0, .inr (7, [.ref a1, .ref a2, .ref a3, .ref a4, .ref a5, .ref a6, .ref a7, .int 0])), (d0, .inr (2, [.ref b1, .ref b2, .ref b3, .int 0, .int (-1), .int (-1)])), (g0, .inr (4, [.ref f0, .ref n0, .ref y0, .int 0, .int 0, .int 0, .int 45])), (f0, .inr (3, [.ref r0, .ref d0, .ref z1, .ref z2, .ref z3, .ref z4, .ref z5, .int 0, .int 0]))] H1 := ro_keep hP hk1
    generalize H1 = H at hP hS ⊢
    refine W.widen (k := 1) (n := 6) (Nat.le_of_ble_eq_true rfl) (Nat.le_of_ble_eq_true rfl) ?_
    refine lv_astore (lv' := [(4, .ref q9), (0, .ref h0), (1, .int p1), (2, .int p2), (3, .ref u0)]) hx hb dL_mark_13 hl (by decide) rfl (fun ls hl => ?_)
    refine lv_iconst (v := 1) hx hb dL_mark_15 (by decide) ?_
    refine W.widen (k := 1) (n := 6) (Nat.le_of_ble_eq_true rfl) (Nat.le_of_ble_eq_true rfl) ?_
    exact vx_ret (W.iret (v := 1) hx hb hr (fun t ht hW => ⟨⟨1, (), rfl, rfl, trivial⟩, hS.F ht⟩) hS.2.2 dL_mark_16)
  · exact (hw : False).elim
abbrev cL_heir : ByteArray := method_8_code
def yL_heir : MethodName := ⟨RL, "heir", "(LNightfallVillage;II[J)I"⟩
theorem q_899 : (Cond.codeWith yL_heir cL_heir 5 (some .int) [(0, 10, 13, 23), (0, 10, 17, 13), (0, 10, 21, 15)]) ∈ tw := tw_in (i := 899) (by decide +kernel) (by decide +kernel)
theorem dL_heir_0 : decode cL_heir 0 = .ok (.aload_n 3, 1) := by decide +kernel
theorem dL_heir_1 : decode cL_heir 1 = .ok (.iconst 0, 1) := by decide +kernel
theorem dL_heir_2 : decode cL_heir 2 = .ok (.aload_n 0, 1) := by decide +kernel
theorem dL_heir_3 : decode cL_heir 3 = .ok (.iload_n 1, 1) := by decide +kernel
theorem dL_heir_4 : decode cL_heir 4 = .ok (.iload_n 2, 1) := by decide +kernel
theorem dL_heir_5 : decode cL_heir 5 = .ok (.invokevirtual 36, 3) := by decide +kernel
theorem q_903 : (Cond.code yX10_heir cX10_heir 3 (some .int)) ∈ tw := tw_in (i := 903) (by decide +kernel) (by decide +kernel)
theorem q_900 : (Cond.methodLink "NightfallVillageLaw" 36 yX10_heir) ∈ tw := tw_in (i := 900) (by decide +kernel) (by decide +kernel)
theorem q_901 : (Cond.instanceMethod yX10_heir) ∈ tw := tw_in (i := 901) (by decide +kernel) (by decide +kernel)
theorem q_902 : (Cond.selects "NightfallVillage" yX10_heir yX10_heir) ∈ tw := tw_in (i := 902) (by decide +kernel) (by decide +kernel)
theorem dL_heir_13 : decode cL_heir 13 = .ok (.astore 4, 2) := by decide +kernel
theorem dL_heir_15 : decode cL_heir 15 = .ok (.iconst 1, 1) := by decide +kernel
theorem dL_heir_16 : decode cL_heir 16 = .ok (.ireturn, 1) := by decide +kernel
set_option maxHeartbeats 4000000 in
set_option maxRecDepth 100000 in
theorem c_L_heir (l : Launch) (hst : l.stackTraces = false) (tE : Nat) (adK adV : Nat → Nat) (dC : Nat → ClassId) (dI : Nat → Nat → Nat) (h0 : Nat) (r0 : Nat) (d0 : Nat) (g0 : Nat) (g1 : Nat) (y1 : Nat) (s1 : Nat) (l1 : Nat) (w1 : Nat) (a1 : Nat) (a2 : Nat) (a3 : Nat) (a4 : Nat) (a5 : Nat) (a6 : Nat) (a7 : Nat) (b1 : Nat) (b2 : Nat) (b3 : Nat) (f0 : Nat) (n0 : Nat) (y0 : Nat) (z1 : Nat) (z2 : Nat) (z3 : Nat) (z4 : Nat) (z5 : Nat) (u0 : Nat) (p1 : Int32) (p2 : Int32) (sz : Nat) : vx_Met l yL_heir (Cond.codeWith yL_heir cL_heir 5 (some .int) [(0, 10, 13, 23), (0, 10, 17, 13), (0, 10, 21, 15)] :: tw) ({ frames := 9, cells := 1, slots := 6, locals := 147 }) (va_Pc [.ref h0, .int p1, .int p2, .ref u0] (preR tE adK adV (dC, dI) [(h0, .inr (10, [.ref r0, .ref d0, .ref g0, .ref g1, .ref y1, .ref s1, .ref l1, .ref w1])), (r0, .inr (7, [.ref a1, .ref a2, .ref a3, .ref a4, .ref a5, .ref a6, .ref a7, .int 0])), (d0, .inr (2, [.ref b1, .ref b2, .ref b3, .int 0, .int (-1), .int (-1)])), (g0, .inr (4, [.ref f0, .ref n0, .ref y0, .int 0, .int 0, .int 0, .int 45])), (f0, .inr (3, [.ref r0, .ref d0, .ref z1, .ref z2, .ref z3, .ref z4, .ref z5, .int 0, .int 0]))] [] sz)) (va_Qi (fun (r : Int32) (_ : Unit) => r = 1) (fun (_ : Unit) (_ : State) => True) (fun q : Nat => sz ≤ q)) (vx_X (fun _ : Unit => True) (fun E (_ : Unit) (_ : State) => False) (fun q : Nat => sz ≤ q)) 1 6 (fun q : Nat => sz ≤ q) := by
  refine vx_ofWH (cc := cL_heir) (maxL := 5) (ret := (some .int)) (hh := [(0, 10, 13, 23), (0, 10, 17, 13), (0, 10, 21, 15)]) (by decide) rfl ?_
  intro p e s m args below meth c s₁ B hml hv
  obtain ⟨rfl, hsz, hP, hK, ham⟩ := hv
  have hx := B.exec
  have hb := B.bytes
  have hr := B.returns
  have hts := atoms_spec B.pre
  have hq : ∀ w ∈ tw, w.before _ s = true := fun w h => hts w (List.mem_cons_of_mem _ h)
  have hown : s.vm.findClass RL = some m.cls := findClass_of_methodNamed B.named
  have hlocks := B.notSynchronized
  have htab := vx_table (x := yL_heir) B (hq _ q_899)
  subst hsz
  generalize hAe : (fun q : Nat => s.heap.size ≤ q) = A at ham ⊢
  have hA : ∀ q : Nat, s.heap.size ≤ q → A q := fun q h => by rw [← hAe]; exact h
  have hS : va_S A s.heap s.heap [] := va_S.rf
  have hP : va_P (dC, dI) cls [(h0, .inr (10, [.ref r0, .ref d0, .ref g0, .ref g1, .ref y1, .ref s1, .ref l1, .ref w1])), (r0, .inr (7, [.ref a1, .ref a2, .ref a3, .ref a4, .ref a5, .ref a6, .ref a7, .int 0])), (d0, .inr (2, [.ref b1, .ref b2, .ref b3, .int 0, .int (-1), .int (-1)])), (g0, .inr (4, [.ref f0, .ref n0, .ref y0, .int 0, .int 0, .int 0, .int 45])), (f0, .inr (3, [.ref r0, .ref d0, .ref z1, .ref z2, .ref z3, .ref z4, .ref z5, .int 0, .int 0]))] s.heap := hP
  have hl := lv_entry ([.ref h0, .int p1, .int p2, .ref u0]) (n := 5) (Nat.le_of_ble_eq_true rfl)
  rw [lg_entry_eq]
  generalize (lg_sl ([.ref h0, .int p1, .int p2, .ref u0]) ++ List.replicate (5 - (lg_sl ([.ref h0, .int p1, .int p2, .ref u0])).length) Slot.unset).toArray = ls at hl ⊢
  have hl : lv_has ls 5 [(0, .ref h0), (1, .int p1), (2, .int p2), (3, .ref u0)] := hl
  refine lv_aload_n hx hb dL_heir_0 rfl (lv_at hl 3 rfl) ?_
  refine lv_iconst (v := 0) hx hb dL_heir_1 (by decide) ?_
  refine lv_aload_n hx hb dL_heir_2 rfl (lv_at hl 0 rfl) ?_
  refine lv_iload_n hx hb dL_heir_3 rfl (lv_at hl 1 rfl) ?_
  refine lv_iload_n hx hb dL_heir_4 rfl (lv_at hl 2 rfl) ?_
  have hPc := hP.sub (ws' := [(h0, .inr (10, [.ref r0, .ref d0, .ref g0, .ref g1, .ref y1, .ref s1, .ref l1, .ref w1])), (r0, .inr (7, [.ref a1, .ref a2, .ref a3, .ref a4, .ref a5, .ref a6, .ref a7, .int 0])), (d0, .inr (2, [.ref b1, .ref b2, .ref b3, .int 0, .int (-1), .int (-1)])), (g0, .inr (4, [.ref f0, .ref n0, .ref y0, .int 0, .int 0, .int 0, .int 45])), (f0, .inr (3, [.ref r0, .ref d0, .ref z1, .ref z2, .ref z3, .ref z4, .ref z5, .int 0, .int 0]))]) [0, 1, 2, 3, 4] rfl
  have hKc := hK.sub (tys' := []) [] rfl
  refine vx_calli (vx_runV (As := [.int p1, .int p2]) (rest := [.int 0, .ref u0]) ⟨hx, hb, hml, hown, hq⟩ (c_X_heir l hst tE adK adV dC dI h0 r0 d0 g0 g1 y1 s1 l1 w1 a1 a2 a3 a4 a5 a6 a7 b1 b2 b3 f0 n0 y0 z1 z2 z3 z4 z5 p1 p2 s.heap.size) (tcV 2 hq q_903 q_1 q_900 q_901 q_902 rfl rfl (by decide +kernel) ⟨Nat.le_of_ble_eq_true rfl, Nat.le_of_ble_eq_true rfl⟩) (preR.V (va_recv hK hP (ci := 10) (q0 := 0) rfl rfl) (preR.of hPc hKc ham hS hA)) rfl rfl hl.1 rfl (lv_room (Nat.le_of_ble_eq_true rfl)) dL_heir_5 ⟨Nat.le_of_ble_eq_true rfl, Nat.le_of_ble_eq_true rfl⟩) hS (fun q _ h => hA q (Nat.le_trans hS.1 h)) (fun q h => hA q (Nat.le_trans hS.1 h)) (fun q _ h => hA q (Nat.le_trans hS.1 h)) (fun E ce q9 u t H1 locs ht hvm hpx hB hz1 hk1 hS hce hcv hcl => ?_) (fun r_1 u t H1 locs ht hvm hw hB hz1 hk1 hS => ?_)
  · have hE : E = "java/lang/IndexOutOfBoundsException" := hB
    subst hE
    refine vx_catch (own := RL) (name := "java/lang/IndexOutOfBoundsException") hown [] ⟨0, 10, 13, 23⟩ [⟨0, 10, 17, 13⟩, ⟨0, 10, 21, 15⟩] (htab.trans rfl) (fun z hz => by cases hz) (by decide) (by decide) (hq _ q_809) (hq _ q_821) hce hcv hcl ?_
    have hP : va_P (dC, dI) cls [(h0, .inr (10, [.ref r0, .ref d0, .ref g0, .ref g1, .ref y1, .ref s1, .ref l1, .ref w1])), (r0, .inr (7, [.ref a1, .ref a2, .ref a3, .ref a4, .ref a5, .ref a6, .ref a7, .int 0])), (d0, .inr (2, [.ref b1, .ref b2, .ref b3, .int 0, .int (-1), .int (-1)])), (g0, .inr (4, [.ref f0, .ref n0, .ref y0, .int 0, .int 0, .int 0, .int 45])), (f0, .inr (3, [.ref r0, .ref d0, .ref z1, .ref z2, .ref z3, .ref z4, .ref z5, .int 0, .int 0]))] H1 := ro_keep hP hk1
    generalize H1 = H at hP hS ⊢
    refine W.widen (k := 1) (n := 6) (Nat.le_of_ble_eq_true rfl) (Nat.le_of_ble_eq_true rfl) ?_
    refine lv_astore (lv' := [(4, .ref q9), (0, .ref h0), (1, .int p1), (2, .int p2), (3, .ref u0)]) hx hb dL_heir_13 hl (by decide) rfl (fun ls hl => ?_)
    refine lv_iconst (v := 1) hx hb dL_heir_15 (by decide) ?_
    refine W.widen (k := 1) (n := 6) (Nat.le_of_ble_eq_true rfl) (Nat.le_of_ble_eq_true rfl) ?_
    exact vx_ret (W.iret (v := 1) hx hb hr (fun t ht hW => ⟨⟨1, (), rfl, rfl, trivial⟩, hS.F ht⟩) hS.2.2 dL_heir_16)
  · exact (hw : False).elim
abbrev cL_begin : ByteArray := method_9_code
def yL_begin : MethodName := ⟨RL, "begin", "(LNightfallVillage;[J)I"⟩
theorem q_910 : (Cond.codeWith yL_begin cL_begin 3 (some .int) [(0, 8, 11, 15), (0, 8, 14, 17)]) ∈ tw := tw_in (i := 910) (by decide +kernel) (by decide +kernel)
theorem dL_begin_0 : decode cL_begin 0 = .ok (.aload_n 1, 1) := by decide +kernel
theorem dL_begin_1 : decode cL_begin 1 = .ok (.iconst 0, 1) := by decide +kernel
theorem dL_begin_2 : decode cL_begin 2 = .ok (.aload_n 0, 1) := by decide +kernel
theorem dL_begin_3 : decode cL_begin 3 = .ok (.invokevirtual 39, 3) := by decide +kernel
theorem q_914 : (Cond.code yX10_begin cX10_begin 1 (some .int)) ∈ tw := tw_in (i := 914) (by decide +kernel) (by decide +kernel)
theorem q_911 : (Cond.methodLink "NightfallVillageLaw" 39 yX10_begin) ∈ tw := tw_in (i := 911) (by decide +kernel) (by decide +kernel)
theorem q_912 : (Cond.instanceMethod yX10_begin) ∈ tw := tw_in (i := 912) (by decide +kernel) (by decide +kernel)
theorem q_913 : (Cond.selects "NightfallVillage" yX10_begin yX10_begin) ∈ tw := tw_in (i := 913) (by decide +kernel) (by decide +kernel)
theorem q_684 : (Cond.classLink "NightfallVillageLaw" 15 "java/lang/UnsupportedOperationException") ∈ tw := tw_in (i := 684) (by decide +kernel) (by decide +kernel)
theorem q_685 : (Cond.classLink "NightfallVillageLaw" 17 "java/lang/IllegalStateException") ∈ tw := tw_in (i := 685) (by decide +kernel) (by decide +kernel)
theorem q_788 : (Cond.castable "java/lang/IllegalStateException" "java/lang/IllegalStateException") ∈ tw := tw_in (i := 788) (by decide +kernel) (by decide +kernel)
theorem dL_begin_14 : decode cL_begin 14 = .ok (.astore_n 2, 1) := by decide +kernel
theorem dL_begin_15 : decode cL_begin 15 = .ok (.iconst 2, 1) := by decide +kernel
theorem dL_begin_16 : decode cL_begin 16 = .ok (.ireturn, 1) := by decide +kernel
set_option maxHeartbeats 4000000 in
set_option maxRecDepth 100000 in
theorem c_L_begin (l : Launch) (hst : l.stackTraces = false) (tE : Nat) (adK adV : Nat → Nat) (dC : Nat → ClassId) (dI : Nat → Nat → Nat) (h0 : Nat) (r0 : Nat) (d0 : Nat) (g0 : Nat) (g1 : Nat) (y1 : Nat) (s1 : Nat) (l1 : Nat) (w1 : Nat) (a1 : Nat) (a2 : Nat) (a3 : Nat) (a4 : Nat) (a5 : Nat) (a6 : Nat) (a7 : Nat) (b1 : Nat) (b2 : Nat) (b3 : Nat) (f0 : Nat) (n0 : Nat) (y0 : Nat) (z1 : Nat) (z2 : Nat) (z3 : Nat) (z4 : Nat) (z5 : Nat) (u0 : Nat) (sz : Nat) : vx_Met l yL_begin (Cond.codeWith yL_begin cL_begin 3 (some .int) [(0, 8, 11, 15), (0, 8, 14, 17)] :: tw) ({ frames := 7, cells := 1, slots := 6, locals := 102 }) (va_Pc [.ref h0, .ref u0] (preR tE adK adV (dC, dI) [(h0, .inr (10, [.ref r0, .ref d0, .ref g0, .ref g1, .ref y1, .ref s1, .ref l1, .ref w1])), (r0, .inr (7, [.ref a1, .ref a2, .ref a3, .ref a4, .ref a5, .ref a6, .ref a7, .int 0])), (d0, .inr (2, [.ref b1, .ref b2, .ref b3, .int 0, .int (-1), .int (-1)])), (g0, .inr (4, [.ref f0, .ref n0, .ref y0, .int 0, .int 0, .int 0, .int 45])), (f0, .inr (3, [.ref r0, .ref d0, .ref z1, .ref z2, .ref z3, .ref z4, .ref z5, .int 0, .int 0]))] [] sz)) (va_Qi (fun (r : Int32) (_ : Unit) => r = 2) (fun (_ : Unit) (_ : State) => True) (fun q : Nat => sz ≤ q)) (vx_X (fun _ : Unit => True) (fun E (_ : Unit) (_ : State) => False) (fun q : Nat => sz ≤ q)) 1 6 (fun q : Nat => sz ≤ q) := by
  refine vx_ofWH (cc := cL_begin) (maxL := 3) (ret := (some .int)) (hh := [(0, 8, 11, 15), (0, 8, 14, 17)]) (by decide) rfl ?_
  intro p e s m args below meth c s₁ B hml hv
  obtain ⟨rfl, hsz, hP, hK, ham⟩ := hv
  have hx := B.exec
  have hb := B.bytes
  have hr := B.returns
  have hts := atoms_spec B.pre
  have hq : ∀ w ∈ tw, w.before _ s = true := fun w h => hts w (List.mem_cons_of_mem _ h)
  have hown : s.vm.findClass RL = some m.cls := findClass_of_methodNamed B.named
  have hlocks := B.notSynchronized
  have htab := vx_table (x := yL_begin) B (hq _ q_910)
  subst hsz
  generalize hAe : (fun q : Nat => s.heap.size ≤ q) = A at ham ⊢
  have hA : ∀ q : Nat, s.heap.size ≤ q → A q := fun q h => by rw [← hAe]; exact h
  have hS : va_S A s.heap s.heap [] := va_S.rf
  have hP : va_P (dC, dI) cls [(h0, .inr (10, [.ref r0, .ref d0, .ref g0, .ref g1, .ref y1, .ref s1, .ref l1, .ref w1])), (r0, .inr (7, [.ref a1, .ref a2, .ref a3, .ref a4, .ref a5, .ref a6, .ref a7, .int 0])), (d0, .inr (2, [.ref b1, .ref b2, .ref b3, .int 0, .int (-1), .int (-1)])), (g0, .inr (4, [.ref f0, .ref n0, .ref y0, .int 0, .int 0, .int 0, .int 45])), (f0, .inr (3, [.ref r0, .ref d0, .ref z1, .ref z2, .ref z3, .ref z4, .ref z5, .int 0, .int 0]))] s.heap := hP
  have hl := lv_entry ([.ref h0, .ref u0]) (n := 3) (Nat.le_of_ble_eq_true rfl)
  rw [lg_entry_eq]
  generalize (lg_sl ([.ref h0, .ref u0]) ++ List.replicate (3 - (lg_sl ([.ref h0, .ref u0])).length) Slot.unset).toArray = ls at hl ⊢
  have hl : lv_has ls 3 [(0, .ref h0), (1, .ref u0)] := hl
  refine lv_aload_n hx hb dL_begin_0 rfl (lv_at hl 1 rfl) ?_
  refine lv_iconst (v := 0) hx hb dL_begin_1 (by decide) ?_
  refine lv_aload_n hx hb dL_begin_2 rfl (lv_at hl 0 rfl) ?_
  have hPc := hP.sub (ws' := [(h0, .inr (10, [.ref r0, .ref d0, .ref g0, .ref g1, .ref y1, .ref s1, .ref l1, .ref w1])), (r0, .inr (7, [.ref a1, .ref a2, .ref a3, .ref a4, .ref a5, .ref a6, .ref a7, .int 0])), (d0, .inr (2, [.ref b1, .ref b2, .ref b3, .int 0, .int (-1), .int (-1)])), (g0, .inr (4, [.ref f0, .ref n0, .ref y0, .int 0, .int 0, .int 0, .int 45])), (f0, .inr (3, [.ref r0, .ref d0, .ref z1, .ref z2, .ref z3, .ref z4, .ref z5, .int 0, .int 0]))]) [0, 1, 2, 3, 4] rfl
  have hKc := hK.sub (tys' := []) [] rfl
  refine vx_calli (vx_runV (As := []) (rest := [.int 0, .ref u0]) ⟨hx, hb, hml, hown, hq⟩ (c_X_begin l hst tE adK adV dC dI h0 r0 d0 g0 g1 y1 s1 l1 w1 a1 a2 a3 a4 a5 a6 a7 b1 b2 b3 f0 n0 y0 z1 z2 z3 z4 z5 s.heap.size) (tcV 0 hq q_914 q_1 q_911 q_912 q_913 rfl rfl (by decide +kernel) ⟨Nat.le_of_ble_eq_true rfl, Nat.le_of_ble_eq_true rfl⟩) (preR.V (va_recv hK hP (ci := 10) (q0 := 0) rfl rfl) (preR.of hPc hKc ham hS hA)) rfl rfl hl.1 rfl (lv_room (Nat.le_of_ble_eq_true rfl)) dL_begin_3 ⟨Nat.le_of_ble_eq_true rfl, Nat.le_of_ble_eq_true rfl⟩) hS (fun q _ h => hA q (Nat.le_trans hS.1 h)) (fun q h => hA q (Nat.le_trans hS.1 h)) (fun q _ h => hA q (Nat.le_trans hS.1 h)) (fun E ce q9 u t H1 locs ht hvm hpx hB hz1 hk1 hS hce hcv hcl => ?_) (fun r_1 u t H1 locs ht hvm hw hB hz1 hk1 hS => ?_)
  · have hE : E = "java/lang/IllegalStateException" := hB
    subst hE
    refine vx_catch (own := RL) (name := "java/lang/IllegalStateException") hown [⟨0, 8, 11, 15⟩] ⟨0, 8, 14, 17⟩ [] (htab.trans rfl) (fun z hz => by rcases List.mem_singleton.mp hz with rfl; exact Or.inr ⟨by decide, "java/lang/UnsupportedOperationException", hq _ q_684, ham.2.2.2.2.2.1⟩) (by decide) (by decide) (hq _ q_685) (hq _ q_788) hce hcv hcl ?_
    have hP : va_P (dC, dI) cls [(h0, .inr (10, [.ref r0, .ref d0, .ref g0, .ref g1, .ref y1, .ref s1, .ref l1, .ref w1])), (r0, .inr (7, [.ref a1, .ref a2, .ref a3, .ref a4, .ref a5, .ref a6, .ref a7, .int 0])), (d0, .inr (2, [.ref b1, .ref b2, .ref b3, .int 0, .int (-1), .int (-1)])), (g0, .inr (4, [.ref f0, .ref n0, .ref y0, .int 0, .int 0, .int 0, .int 45])), (f0, .inr (3, [.ref r0, .ref d0, .ref z1, .ref z2, .ref z3, .ref z4, .ref z5, .int 0, .int 0]))] H1 := ro_keep hP hk1
    generalize H1 = H at hP hS ⊢
    refine W.widen (k := 1) (n := 6) (Nat.le_of_ble_eq_true rfl) (Nat.le_of_ble_eq_true rfl) ?_
    refine lv_astore_n (lv' := [(2, .ref q9), (0, .ref h0), (1, .ref u0)]) hx hb dL_begin_14 rfl hl (by decide) rfl (fun ls hl => ?_)
    refine lv_iconst (v := 2) hx hb dL_begin_15 (by decide) ?_
    refine W.widen (k := 1) (n := 6) (Nat.le_of_ble_eq_true rfl) (Nat.le_of_ble_eq_true rfl) ?_
    exact vx_ret (W.iret (v := 2) hx hb hr (fun t ht hW => ⟨⟨2, (), rfl, rfl, trivial⟩, hS.F ht⟩) hS.2.2 dL_begin_16)
  · exact (hw : False).elim
abbrev cL_act : ByteArray := method_10_code
def yL_act : MethodName := ⟨RL, "act", "(LNightfallVillage;II[J)I"⟩
theorem q_919 : (Cond.codeWith yL_act cL_act 5 (some .int) [(0, 17, 20, 23), (0, 17, 24, 17), (0, 17, 28, 15)]) ∈ tw := tw_in (i := 919) (by decide +kernel) (by decide +kernel)
theorem dL_act_0 : decode cL_act 0 = .ok (.aload_n 3, 1) := by decide +kernel
theorem dL_act_1 : decode cL_act 1 = .ok (.iconst 0, 1) := by decide +kernel
theorem dL_act_2 : decode cL_act 2 = .ok (.aload_n 0, 1) := by decide +kernel
theorem dL_act_3 : decode cL_act 3 = .ok (.iload_n 1, 1) := by decide +kernel
theorem dL_act_4 : decode cL_act 4 = .ok (.iload_n 2, 1) := by decide +kernel
theorem dL_act_5 : decode cL_act 5 = .ok (.invokevirtual 43, 3) := by decide +kernel
theorem q_923 : (Cond.code yX10_act cX10_act 3 (some .boolean)) ∈ tw := tw_in (i := 923) (by decide +kernel) (by decide +kernel)
theorem q_920 : (Cond.methodLink "NightfallVillageLaw" 43 yX10_act) ∈ tw := tw_in (i := 920) (by decide +kernel) (by decide +kernel)
theorem q_921 : (Cond.instanceMethod yX10_act) ∈ tw := tw_in (i := 921) (by decide +kernel) (by decide +kernel)
theorem q_922 : (Cond.selects "NightfallVillage" yX10_act yX10_act) ∈ tw := tw_in (i := 922) (by decide +kernel) (by decide +kernel)
theorem dL_act_20 : decode cL_act 20 = .ok (.astore 4, 2) := by decide +kernel
theorem dL_act_22 : decode cL_act 22 = .ok (.iconst 1, 1) := by decide +kernel
theorem dL_act_23 : decode cL_act 23 = .ok (.ireturn, 1) := by decide +kernel
set_option maxHeartbeats 4000000 in
set_option maxRecDepth 100000 in
theorem c_L_act (l : Launch) (hst : l.stackTraces = false) (tE : Nat) (adK adV : Nat → Nat) (dC : Nat → ClassId) (dI : Nat → Nat → Nat) (h0 : Nat) (r0 : Nat) (d0 : Nat) (g0 : Nat) (g1 : Nat) (y1 : Nat) (s1 : Nat) (l1 : Nat) (w1 : Nat) (a1 : Nat) (a2 : Nat) (a3 : Nat) (a4 : Nat) (a5 : Nat) (a6 : Nat) (a7 : Nat) (b1 : Nat) (b2 : Nat) (b3 : Nat) (f0 : Nat) (n0 : Nat) (y0 : Nat) (z1 : Nat) (z2 : Nat) (z3 : Nat) (z4 : Nat) (z5 : Nat) (u0 : Nat) (p1 : Int32) (p2 : Int32) (sz : Nat) : vx_Met l yL_act (Cond.codeWith yL_act cL_act 5 (some .int) [(0, 17, 20, 23), (0, 17, 24, 17), (0, 17, 28, 15)] :: tw) ({ frames := 8, cells := 1, slots := 6, locals := 125 }) (va_Pc [.ref h0, .int p1, .int p2, .ref u0] (preR tE adK adV (dC, dI) [(h0, .inr (10, [.ref r0, .ref d0, .ref g0, .ref g1, .ref y1, .ref s1, .ref l1, .ref w1])), (r0, .inr (7, [.ref a1, .ref a2, .ref a3, .ref a4, .ref a5, .ref a6, .ref a7, .int 0])), (d0, .inr (2, [.ref b1, .ref b2, .ref b3, .int 0, .int (-1), .int (-1)])), (g0, .inr (4, [.ref f0, .ref n0, .ref y0, .int 0, .int 0, .int 0, .int 45])), (f0, .inr (3, [.ref r0, .ref d0, .ref z1, .ref z2, .ref z3, .ref z4, .ref z5, .int 0, .int 0]))] [] sz)) (va_Qi (fun (r : Int32) (_ : Unit) => r = 1) (fun (_ : Unit) (_ : State) => True) (fun q : Nat => sz ≤ q)) (vx_X (fun _ : Unit => True) (fun E (_ : Unit) (_ : State) => False) (fun q : Nat => sz ≤ q)) 1 6 (fun q : Nat => sz ≤ q) := by
  refine vx_ofWH (cc := cL_act) (maxL := 5) (ret := (some .int)) (hh := [(0, 17, 20, 23), (0, 17, 24, 17), (0, 17, 28, 15)]) (by decide) rfl ?_
  intro p e s m args below meth c s₁ B hml hv
  obtain ⟨rfl, hsz, hP, hK, ham⟩ := hv
  have hx := B.exec
  have hb := B.bytes
  have hr := B.returns
  have hts := atoms_spec B.pre
  have hq : ∀ w ∈ tw, w.before _ s = true := fun w h => hts w (List.mem_cons_of_mem _ h)
  have hown : s.vm.findClass RL = some m.cls := findClass_of_methodNamed B.named
  have hlocks := B.notSynchronized
  have htab := vx_table (x := yL_act) B (hq _ q_919)
  subst hsz
  generalize hAe : (fun q : Nat => s.heap.size ≤ q) = A at ham ⊢
  have hA : ∀ q : Nat, s.heap.size ≤ q → A q := fun q h => by rw [← hAe]; exact h
  have hS : va_S A s.heap s.heap [] := va_S.rf
  have hP : va_P (dC, dI) cls [(h0, .inr (10, [.ref r0, .ref d0, .ref g0, .ref g1, .ref y1, .ref s1, .ref l1, .ref w1])), (r0, .inr (7, [.ref a1, .ref a2, .ref a3, .ref a4, .ref a5, .ref a6, .ref a7, .int 0])), (d0, .inr (2, [.ref b1, .ref b2, .ref b3, .int 0, .int (-1), .int (-1)])), (g0, .inr (4, [.ref f0, .ref n0, .ref y0, .int 0, .int 0, .int 0, .int 45])), (f0, .inr (3, [.ref r0, .ref d0, .ref z1, .ref z2, .ref z3, .ref z4, .ref z5, .int 0, .int 0]))] s.heap := hP
  have hl := lv_entry ([.ref h0, .int p1, .int p2, .ref u0]) (n := 5) (Nat.le_of_ble_eq_true rfl)
  rw [lg_entry_eq]
  generalize (lg_sl ([.ref h0, .int p1, .int p2, .ref u0]) ++ List.replicate (5 - (lg_sl ([.ref h0, .int p1, .int p2, .ref u0])).length) Slot.unset).toArray = ls at hl ⊢
  have hl : lv_has ls 5 [(0, .ref h0), (1, .int p1), (2, .int p2), (3, .ref u0)] := hl
  refine lv_aload_n hx hb dL_act_0 rfl (lv_at hl 3 rfl) ?_
  refine lv_iconst (v := 0) hx hb dL_act_1 (by decide) ?_
  refine lv_aload_n hx hb dL_act_2 rfl (lv_at hl 0 rfl) ?_
  refine lv_iload_n hx hb dL_act_3 rfl (lv_at hl 1 rfl) ?_
  refine lv_iload_n hx hb dL_act_4 rfl (lv_at hl 2 rfl) ?_
  have hPc := hP.sub (ws' := [(h0, .inr (10, [.ref r0, .ref d0, .ref g0, .ref g1, .ref y1, .ref s1, .ref l1, .ref w1])), (r0, .inr (7, [.ref a1, .ref a2, .ref a3, .ref a4, .ref a5, .ref a6, .ref a7, .int 0])), (d0, .inr (2, [.ref b1, .ref b2, .ref b3, .int 0, .int (-1), .int (-1)])), (g0, .inr (4, [.ref f0, .ref n0, .ref y0, .int 0, .int 0, .int 0, .int 45])), (f0, .inr (3, [.ref r0, .ref d0, .ref z1, .ref z2, .ref z3, .ref z4, .ref z5, .int 0, .int 0]))]) [0, 1, 2, 3, 4] rfl
  have hKc := hK.sub (tys' := []) [] rfl
  refine vx_calli (vx_runV (As := [.int p1, .int p2]) (rest := [.int 0, .ref u0]) ⟨hx, hb, hml, hown, hq⟩ (c_X_act l hst tE adK adV dC dI h0 r0 d0 g0 g1 y1 s1 l1 w1 a1 a2 a3 a4 a5 a6 a7 b1 b2 b3 f0 n0 y0 z1 z2 z3 z4 z5 p1 p2 s.heap.size) (tcV 2 hq q_923 q_1 q_920 q_921 q_922 rfl rfl (by decide +kernel) ⟨Nat.le_of_ble_eq_true rfl, Nat.le_of_ble_eq_true rfl⟩) (preR.V (va_recv hK hP (ci := 10) (q0 := 0) rfl rfl) (preR.of hPc hKc ham hS hA)) rfl rfl hl.1 rfl (lv_room (Nat.le_of_ble_eq_true rfl)) dL_act_5 ⟨Nat.le_of_ble_eq_true rfl, Nat.le_of_ble_eq_true rfl⟩) hS (fun q _ h => hA q (Nat.le_trans hS.1 h)) (fun q h => hA q (Nat.le_trans hS.1 h)) (fun q _ h => hA q (Nat.le_trans hS.1 h)) (fun E ce q9 u t H1 locs ht hvm hpx hB hz1 hk1 hS hce hcv hcl => ?_) (fun r_1 u t H1 locs ht hvm hw hB hz1 hk1 hS => ?_)
  · have hE : E = "java/lang/IndexOutOfBoundsException" := hB
    subst hE
    refine vx_catch (own := RL) (name := "java/lang/IndexOutOfBoundsException") hown [] ⟨0, 17, 20, 23⟩ [⟨0, 17, 24, 17⟩, ⟨0, 17, 28, 15⟩] (htab.trans rfl) (fun z hz => by cases hz) (by decide) (by decide) (hq _ q_809) (hq _ q_821) hce hcv hcl ?_
    have hP : va_P (dC, dI) cls [(h0, .inr (10, [.ref r0, .ref d0, .ref g0, .ref g1, .ref y1, .ref s1, .ref l1, .ref w1])), (r0, .inr (7, [.ref a1, .ref a2, .ref a3, .ref a4, .ref a5, .ref a6, .ref a7, .int 0])), (d0, .inr (2, [.ref b1, .ref b2, .ref b3, .int 0, .int (-1), .int (-1)])), (g0, .inr (4, [.ref f0, .ref n0, .ref y0, .int 0, .int 0, .int 0, .int 45])), (f0, .inr (3, [.ref r0, .ref d0, .ref z1, .ref z2, .ref z3, .ref z4, .ref z5, .int 0, .int 0]))] H1 := ro_keep hP hk1
    generalize H1 = H at hP hS ⊢
    refine W.widen (k := 1) (n := 6) (Nat.le_of_ble_eq_true rfl) (Nat.le_of_ble_eq_true rfl) ?_
    refine lv_astore (lv' := [(4, .ref q9), (0, .ref h0), (1, .int p1), (2, .int p2), (3, .ref u0)]) hx hb dL_act_20 hl (by decide) rfl (fun ls hl => ?_)
    refine lv_iconst (v := 1) hx hb dL_act_22 (by decide) ?_
    refine W.widen (k := 1) (n := 6) (Nat.le_of_ble_eq_true rfl) (Nat.le_of_ble_eq_true rfl) ?_
    exact vx_ret (W.iret (v := 1) hx hb hr (fun t ht hW => ⟨⟨1, (), rfl, rfl, trivial⟩, hS.F ht⟩) hS.2.2 dL_act_23)
  · exact (hw : False).elim
abbrev cL_dawn : ByteArray := method_11_code
def yL_dawn : MethodName := ⟨RL, "dawn", "(LNightfallVillage;[J)I"⟩
theorem q_935 : (Cond.codeWith yL_dawn cL_dawn 3 (some .int) [(0, 8, 11, 17), (0, 8, 14, 15)]) ∈ tw := tw_in (i := 935) (by decide +kernel) (by decide +kernel)
theorem dL_dawn_0 : decode cL_dawn 0 = .ok (.aload_n 1, 1) := by decide +kernel
theorem dL_dawn_1 : decode cL_dawn 1 = .ok (.iconst 0, 1) := by decide +kernel
theorem dL_dawn_2 : decode cL_dawn 2 = .ok (.aload_n 0, 1) := by decide +kernel
theorem dL_dawn_3 : decode cL_dawn 3 = .ok (.invokevirtual 46, 3) := by decide +kernel
theorem q_939 : (Cond.code yX10_dawn cX10_dawn 3 (some .int)) ∈ tw := tw_in (i := 939) (by decide +kernel) (by decide +kernel)
theorem q_936 : (Cond.methodLink "NightfallVillageLaw" 46 yX10_dawn) ∈ tw := tw_in (i := 936) (by decide +kernel) (by decide +kernel)
theorem q_937 : (Cond.instanceMethod yX10_dawn) ∈ tw := tw_in (i := 937) (by decide +kernel) (by decide +kernel)
theorem q_938 : (Cond.selects "NightfallVillage" yX10_dawn yX10_dawn) ∈ tw := tw_in (i := 938) (by decide +kernel) (by decide +kernel)
theorem dL_dawn_11 : decode cL_dawn 11 = .ok (.astore_n 2, 1) := by decide +kernel
theorem dL_dawn_12 : decode cL_dawn 12 = .ok (.iconst 1, 1) := by decide +kernel
theorem dL_dawn_13 : decode cL_dawn 13 = .ok (.ireturn, 1) := by decide +kernel
set_option maxHeartbeats 4000000 in
set_option maxRecDepth 100000 in
theorem c_L_dawn (l : Launch) (hst : l.stackTraces = false) (tE : Nat) (adK adV : Nat → Nat) (dC : Nat → ClassId) (dI : Nat → Nat → Nat) (h0 : Nat) (r0 : Nat) (d0 : Nat) (g0 : Nat) (g1 : Nat) (y1 : Nat) (s1 : Nat) (l1 : Nat) (w1 : Nat) (a1 : Nat) (a2 : Nat) (a3 : Nat) (a4 : Nat) (a5 : Nat) (a6 : Nat) (a7 : Nat) (b1 : Nat) (b2 : Nat) (b3 : Nat) (f0 : Nat) (n0 : Nat) (y0 : Nat) (z1 : Nat) (z2 : Nat) (z3 : Nat) (z4 : Nat) (z5 : Nat) (u0 : Nat) (sz : Nat) : vx_Met l yL_dawn (Cond.codeWith yL_dawn cL_dawn 3 (some .int) [(0, 8, 11, 17), (0, 8, 14, 15)] :: tw) ({ frames := 8, cells := 1, slots := 6, locals := 124 }) (va_Pc [.ref h0, .ref u0] (preR tE adK adV (dC, dI) [(h0, .inr (10, [.ref r0, .ref d0, .ref g0, .ref g1, .ref y1, .ref s1, .ref l1, .ref w1])), (r0, .inr (7, [.ref a1, .ref a2, .ref a3, .ref a4, .ref a5, .ref a6, .ref a7, .int 0])), (d0, .inr (2, [.ref b1, .ref b2, .ref b3, .int 0, .int (-1), .int (-1)])), (g0, .inr (4, [.ref f0, .ref n0, .ref y0, .int 0, .int 0, .int 0, .int 45])), (f0, .inr (3, [.ref r0, .ref d0, .ref z1, .ref z2, .ref z3, .ref z4, .ref z5, .int 0, .int 0]))] [] sz)) (va_Qi (fun (r : Int32) (_ : Unit) => r = 1) (fun (_ : Unit) (_ : State) => True) (fun q : Nat => sz ≤ q)) (vx_X (fun _ : Unit => True) (fun E (_ : Unit) (_ : State) => False) (fun q : Nat => sz ≤ q)) 1 6 (fun q : Nat => sz ≤ q) := by
  refine vx_ofWH (cc := cL_dawn) (maxL := 3) (ret := (some .int)) (hh := [(0, 8, 11, 17), (0, 8, 14, 15)]) (by decide) rfl ?_
  intro p e s m args below meth c s₁ B hml hv
  obtain ⟨rfl, hsz, hP, hK, ham⟩ := hv
  have hx := B.exec
  have hb := B.bytes
  have hr := B.returns
  have hts := atoms_spec B.pre
  have hq : ∀ w ∈ tw, w.before _ s = true := fun w h => hts w (List.mem_cons_of_mem _ h)
  have hown : s.vm.findClass RL = some m.cls := findClass_of_methodNamed B.named
  have hlocks := B.notSynchronized
  have htab := vx_table (x := yL_dawn) B (hq _ q_935)
  subst hsz
  generalize hAe : (fun q : Nat => s.heap.size ≤ q) = A at ham ⊢
  have hA : ∀ q : Nat, s.heap.size ≤ q → A q := fun q h => by rw [← hAe]; exact h
  have hS : va_S A s.heap s.heap [] := va_S.rf
  have hP : va_P (dC, dI) cls [(h0, .inr (10, [.ref r0, .ref d0, .ref g0, .ref g1, .ref y1, .ref s1, .ref l1, .ref w1])), (r0, .inr (7, [.ref a1, .ref a2, .ref a3, .ref a4, .ref a5, .ref a6, .ref a7, .int 0])), (d0, .inr (2, [.ref b1, .ref b2, .ref b3, .int 0, .int (-1), .int (-1)])), (g0, .inr (4, [.ref f0, .ref n0, .ref y0, .int 0, .int 0, .int 0, .int 45])), (f0, .inr (3, [.ref r0, .ref d0, .ref z1, .ref z2, .ref z3, .ref z4, .ref z5, .int 0, .int 0]))] s.heap := hP
  have hl := lv_entry ([.ref h0, .ref u0]) (n := 3) (Nat.le_of_ble_eq_true rfl)
  rw [lg_entry_eq]
  generalize (lg_sl ([.ref h0, .ref u0]) ++ List.replicate (3 - (lg_sl ([.ref h0, .ref u0])).length) Slot.unset).toArray = ls at hl ⊢
  have hl : lv_has ls 3 [(0, .ref h0), (1, .ref u0)] := hl
  refine lv_aload_n hx hb dL_dawn_0 rfl (lv_at hl 1 rfl) ?_
  refine lv_iconst (v := 0) hx hb dL_dawn_1 (by decide) ?_
  refine lv_aload_n hx hb dL_dawn_2 rfl (lv_at hl 0 rfl) ?_
  have hPc := hP.sub (ws' := [(h0, .inr (10, [.ref r0, .ref d0, .ref g0, .ref g1, .ref y1, .ref s1, .ref l1, .ref w1])), (r0, .inr (7, [.ref a1, .ref a2, .ref a3, .ref a4, .ref a5, .ref a6, .ref a7, .int 0])), (d0, .inr (2, [.ref b1, .ref b2, .ref b3, .int 0, .int (-1), .int (-1)])), (g0, .inr (4, [.ref f0, .ref n0, .ref y0, .int 0, .int 0, .int 0, .int 45])), (f0, .inr (3, [.ref r0, .ref d0, .ref z1, .ref z2, .ref z3, .ref z4, .ref z5, .int 0, .int 0]))]) [0, 1, 2, 3, 4] rfl
  have hKc := hK.sub (tys' := []) [] rfl
  refine vx_calli (vx_runV (As := []) (rest := [.int 0, .ref u0]) ⟨hx, hb, hml, hown, hq⟩ (c_X_dawn l hst tE adK adV dC dI h0 r0 d0 g0 g1 y1 s1 l1 w1 a1 a2 a3 a4 a5 a6 a7 b1 b2 b3 f0 n0 y0 z1 z2 z3 z4 z5 s.heap.size) (tcV 0 hq q_939 q_1 q_936 q_937 q_938 rfl rfl (by decide +kernel) ⟨Nat.le_of_ble_eq_true rfl, Nat.le_of_ble_eq_true rfl⟩) (preR.V (va_recv hK hP (ci := 10) (q0 := 0) rfl rfl) (preR.of hPc hKc ham hS hA)) rfl rfl hl.1 rfl (lv_room (Nat.le_of_ble_eq_true rfl)) dL_dawn_3 ⟨Nat.le_of_ble_eq_true rfl, Nat.le_of_ble_eq_true rfl⟩) hS (fun q _ h => hA q (Nat.le_trans hS.1 h)) (fun q h => hA q (Nat.le_trans hS.1 h)) (fun q _ h => hA q (Nat.le_trans hS.1 h)) (fun E ce q9 u t H1 locs ht hvm hpx hB hz1 hk1 hS hce hcv hcl => ?_) (fun r_1 u t H1 locs ht hvm hw hB hz1 hk1 hS => ?_)
  · have hE : E = "java/lang/IllegalStateException" := hB
    subst hE
    refine vx_catch (own := RL) (name := "java/lang/IllegalStateException") hown [] ⟨0, 8, 11, 17⟩ [⟨0, 8, 14, 15⟩] (htab.trans rfl) (fun z hz => by cases hz) (by decide) (by decide) (hq _ q_685) (hq _ q_788) hce hcv hcl ?_
    have hP : va_P (dC, dI) cls [(h0, .inr (10, [.ref r0, .ref d0, .ref g0, .ref g1, .ref y1, .ref s1, .ref l1, .ref w1])), (r0, .inr (7, [.ref a1, .ref a2, .ref a3, .ref a4, .ref a5, .ref a6, .ref a7, .int 0])), (d0, .inr (2, [.ref b1, .ref b2, .ref b3, .int 0, .int (-1), .int (-1)])), (g0, .inr (4, [.ref f0, .ref n0, .ref y0, .int 0, .int 0, .int 0, .int 45])), (f0, .inr (3, [.ref r0, .ref d0, .ref z1, .ref z2, .ref z3, .ref z4, .ref z5, .int 0, .int 0]))] H1 := ro_keep hP hk1
    generalize H1 = H at hP hS ⊢
    refine W.widen (k := 1) (n := 6) (Nat.le_of_ble_eq_true rfl) (Nat.le_of_ble_eq_true rfl) ?_
    refine lv_astore_n (lv' := [(2, .ref q9), (0, .ref h0), (1, .ref u0)]) hx hb dL_dawn_11 rfl hl (by decide) rfl (fun ls hl => ?_)
    refine lv_iconst (v := 1) hx hb dL_dawn_12 (by decide) ?_
    refine W.widen (k := 1) (n := 6) (Nat.le_of_ble_eq_true rfl) (Nat.le_of_ble_eq_true rfl) ?_
    exact vx_ret (W.iret (v := 1) hx hb hr (fun t ht hW => ⟨⟨1, (), rfl, rfl, trivial⟩, hS.F ht⟩) hS.2.2 dL_dawn_13)
  · exact (hw : False).elim
abbrev cL_didAct : ByteArray := method_12_code
def yL_didAct : MethodName := ⟨RL, "didAct", "(LNightfallVillage;I[J)I"⟩
theorem q_956 : (Cond.codeWith yL_didAct cL_didAct 4 (some .int) [(0, 16, 19, 23), (0, 16, 22, 53)]) ∈ tw := tw_in (i := 956) (by decide +kernel) (by decide +kernel)
theorem dL_didAct_0 : decode cL_didAct 0 = .ok (.aload_n 2, 1) := by decide +kernel
theorem dL_didAct_1 : decode cL_didAct 1 = .ok (.iconst 0, 1) := by decide +kernel
theorem dL_didAct_2 : decode cL_didAct 2 = .ok (.aload_n 0, 1) := by decide +kernel
theorem dL_didAct_3 : decode cL_didAct 3 = .ok (.iload_n 1, 1) := by decide +kernel
theorem dL_didAct_4 : decode cL_didAct 4 = .ok (.invokevirtual 49, 3) := by decide +kernel
theorem q_961 : (Cond.code yX10_didAct cX10_didAct 2 (some .boolean)) ∈ tw := tw_in (i := 961) (by decide +kernel) (by decide +kernel)
theorem q_958 : (Cond.methodLink "NightfallVillageLaw" 49 yX10_didAct) ∈ tw := tw_in (i := 958) (by decide +kernel) (by decide +kernel)
theorem q_959 : (Cond.instanceMethod yX10_didAct) ∈ tw := tw_in (i := 959) (by decide +kernel) (by decide +kernel)
theorem q_960 : (Cond.selects "NightfallVillage" yX10_didAct yX10_didAct) ∈ tw := tw_in (i := 960) (by decide +kernel) (by decide +kernel)
theorem dL_didAct_19 : decode cL_didAct 19 = .ok (.astore_n 3, 1) := by decide +kernel
theorem dL_didAct_20 : decode cL_didAct 20 = .ok (.iconst 1, 1) := by decide +kernel
theorem dL_didAct_21 : decode cL_didAct 21 = .ok (.ireturn, 1) := by decide +kernel
set_option maxHeartbeats 4000000 in
set_option maxRecDepth 100000 in
theorem c_L_didAct (l : Launch) (hst : l.stackTraces = false) (tE : Nat) (adK adV : Nat → Nat) (dC : Nat → ClassId) (dI : Nat → Nat → Nat) (h0 : Nat) (r0 : Nat) (d0 : Nat) (g0 : Nat) (g1 : Nat) (y1 : Nat) (s1 : Nat) (l1 : Nat) (w1 : Nat) (a1 : Nat) (a2 : Nat) (a3 : Nat) (a4 : Nat) (a5 : Nat) (a6 : Nat) (a7 : Nat) (b1 : Nat) (b2 : Nat) (b3 : Nat) (f0 : Nat) (n0 : Nat) (y0 : Nat) (z1 : Nat) (z2 : Nat) (z3 : Nat) (z4 : Nat) (z5 : Nat) (u0 : Nat) (p1 : Int32) (sz : Nat) : vx_Met l yL_didAct (Cond.codeWith yL_didAct cL_didAct 4 (some .int) [(0, 16, 19, 23), (0, 16, 22, 53)] :: tw) ({ frames := 8, cells := 1, slots := 6, locals := 124 }) (va_Pc [.ref h0, .int p1, .ref u0] (preR tE adK adV (dC, dI) [(h0, .inr (10, [.ref r0, .ref d0, .ref g0, .ref g1, .ref y1, .ref s1, .ref l1, .ref w1])), (r0, .inr (7, [.ref a1, .ref a2, .ref a3, .ref a4, .ref a5, .ref a6, .ref a7, .int 0])), (d0, .inr (2, [.ref b1, .ref b2, .ref b3, .int 0, .int (-1), .int (-1)])), (g0, .inr (4, [.ref f0, .ref n0, .ref y0, .int 0, .int 0, .int 0, .int 45])), (f0, .inr (3, [.ref r0, .ref d0, .ref z1, .ref z2, .ref z3, .ref z4, .ref z5, .int 0, .int 0]))] [] sz)) (va_Qi (fun (r : Int32) (_ : Unit) => r = 1) (fun (_ : Unit) (_ : State) => True) (fun q : Nat => sz ≤ q)) (vx_X (fun _ : Unit => True) (fun E (_ : Unit) (_ : State) => False) (fun q : Nat => sz ≤ q)) 1 6 (fun q : Nat => sz ≤ q) := by
  refine vx_ofWH (cc := cL_didAct) (maxL := 4) (ret := (some .int)) (hh := [(0, 16, 19, 23), (0, 16, 22, 53)]) (by decide) rfl ?_
  intro p e s m args below meth c s₁ B hml hv
  obtain ⟨rfl, hsz, hP, hK, ham⟩ := hv
  have hx := B.exec
  have hb := B.bytes
  have hr := B.returns
  have hts := atoms_spec B.pre
  have hq : ∀ w ∈ tw, w.before _ s = true := fun w h => hts w (List.mem_cons_of_mem _ h)
  have hown : s.vm.findClass RL = some m.cls := findClass_of_methodNamed B.named
  have hlocks := B.notSynchronized
  have htab := vx_table (x := yL_didAct) B (hq _ q_956)
  subst hsz
  generalize hAe : (fun q : Nat => s.heap.size ≤ q) = A at ham ⊢
  have hA : ∀ q : Nat, s.heap.size ≤ q → A q := fun q h => by rw [← hAe]; exact h
  have hS : va_S A s.heap s.heap [] := va_S.rf
  have hP : va_P (dC, dI) cls [(h0, .inr (10, [.ref r0, .ref d0, .ref g0, .ref g1, .ref y1, .ref s1, .ref l1, .ref w1])), (r0, .inr (7, [.ref a1, .ref a2, .ref a3, .ref a4, .ref a5, .ref a6, .ref a7, .int 0])), (d0, .inr (2, [.ref b1, .ref b2, .ref b3, .int 0, .int (-1), .int (-1)])), (g0, .inr (4, [.ref f0, .ref n0, .ref y0, .int 0, .int 0, .int 0, .int 45])), (f0, .inr (3, [.ref r0, .ref d0, .ref z1, .ref z2, .ref z3, .ref z4, .ref z5, .int 0, .int 0]))] s.heap := hP
  have hl := lv_entry ([.ref h0, .int p1, .ref u0]) (n := 4) (Nat.le_of_ble_eq_true rfl)
  rw [lg_entry_eq]
  generalize (lg_sl ([.ref h0, .int p1, .ref u0]) ++ List.replicate (4 - (lg_sl ([.ref h0, .int p1, .ref u0])).length) Slot.unset).toArray = ls at hl ⊢
  have hl : lv_has ls 4 [(0, .ref h0), (1, .int p1), (2, .ref u0)] := hl
  refine lv_aload_n hx hb dL_didAct_0 rfl (lv_at hl 2 rfl) ?_
  refine lv_iconst (v := 0) hx hb dL_didAct_1 (by decide) ?_
  refine lv_aload_n hx hb dL_didAct_2 rfl (lv_at hl 0 rfl) ?_
  refine lv_iload_n hx hb dL_didAct_3 rfl (lv_at hl 1 rfl) ?_
  have hPc := hP.sub (ws' := [(h0, .inr (10, [.ref r0, .ref d0, .ref g0, .ref g1, .ref y1, .ref s1, .ref l1, .ref w1])), (r0, .inr (7, [.ref a1, .ref a2, .ref a3, .ref a4, .ref a5, .ref a6, .ref a7, .int 0])), (d0, .inr (2, [.ref b1, .ref b2, .ref b3, .int 0, .int (-1), .int (-1)])), (g0, .inr (4, [.ref f0, .ref n0, .ref y0, .int 0, .int 0, .int 0, .int 45])), (f0, .inr (3, [.ref r0, .ref d0, .ref z1, .ref z2, .ref z3, .ref z4, .ref z5, .int 0, .int 0]))]) [0, 1, 2, 3, 4] rfl
  have hKc := hK.sub (tys' := []) [] rfl
  refine vx_calli (vx_runV (As := [.int p1]) (rest := [.int 0, .ref u0]) ⟨hx, hb, hml, hown, hq⟩ (c_X_didAct l hst tE adK adV dC dI h0 r0 d0 g0 g1 y1 s1 l1 w1 a1 a2 a3 a4 a5 a6 a7 b1 b2 b3 f0 n0 y0 z1 z2 z3 z4 z5 p1 s.heap.size) (tcV 1 hq q_961 q_1 q_958 q_959 q_960 rfl rfl (by decide +kernel) ⟨Nat.le_of_ble_eq_true rfl, Nat.le_of_ble_eq_true rfl⟩) (preR.V (va_recv hK hP (ci := 10) (q0 := 0) rfl rfl) (preR.of hPc hKc ham hS hA)) rfl rfl hl.1 rfl (lv_room (Nat.le_of_ble_eq_true rfl)) dL_didAct_4 ⟨Nat.le_of_ble_eq_true rfl, Nat.le_of_ble_eq_true rfl⟩) hS (fun q _ h => hA q (Nat.le_trans hS.1 h)) (fun q h => hA q (Nat.le_trans hS.1 h)) (fun q _ h => hA q (Nat.le_trans hS.1 h)) (fun E ce q9 u t H1 locs ht hvm hpx hB hz1 hk1 hS hce hcv hcl => ?_) (fun r_1 u t H1 locs ht hvm hw hB hz1 hk1 hS => ?_)
  · have hE : E = "java/lang/IndexOutOfBoundsException" := hB
    subst hE
    refine vx_catch (own := RL) (name := "java/lang/IndexOutOfBoundsException") hown [] ⟨0, 16, 19, 23⟩ [⟨0, 16, 22, 53⟩] (htab.trans rfl) (fun z hz => by cases hz) (by decide) (by decide) (hq _ q_809) (hq _ q_821) hce hcv hcl ?_
    have hP : va_P (dC, dI) cls [(h0, .inr (10, [.ref r0, .ref d0, .ref g0, .ref g1, .ref y1, .ref s1, .ref l1, .ref w1])), (r0, .inr (7, [.ref a1, .ref a2, .ref a3, .ref a4, .ref a5, .ref a6, .ref a7, .int 0])), (d0, .inr (2, [.ref b1, .ref b2, .ref b3, .int 0, .int (-1), .int (-1)])), (g0, .inr (4, [.ref f0, .ref n0, .ref y0, .int 0, .int 0, .int 0, .int 45])), (f0, .inr (3, [.ref r0, .ref d0, .ref z1, .ref z2, .ref z3, .ref z4, .ref z5, .int 0, .int 0]))] H1 := ro_keep hP hk1
    generalize H1 = H at hP hS ⊢
    refine W.widen (k := 1) (n := 6) (Nat.le_of_ble_eq_true rfl) (Nat.le_of_ble_eq_true rfl) ?_
    refine lv_astore_n (lv' := [(3, .ref q9), (0, .ref h0), (1, .int p1), (2, .ref u0)]) hx hb dL_didAct_19 rfl hl (by decide) rfl (fun ls hl => ?_)
    refine lv_iconst (v := 1) hx hb dL_didAct_20 (by decide) ?_
    refine W.widen (k := 1) (n := 6) (Nat.le_of_ble_eq_true rfl) (Nat.le_of_ble_eq_true rfl) ?_
    exact vx_ret (W.iret (v := 1) hx hb hr (fun t ht hW => ⟨⟨1, (), rfl, rfl, trivial⟩, hS.F ht⟩) hS.2.2 dL_didAct_21)
  · exact (hw : False).elim
abbrev cL_told : ByteArray := method_13_code
def yL_told : MethodName := ⟨RL, "told", "(LNightfallVillage;II[J)I"⟩
theorem q_984 : (Cond.codeWith yL_told cL_told 5 (some .int) [(0, 10, 13, 23), (0, 10, 17, 53)]) ∈ tw := tw_in (i := 984) (by decide +kernel) (by decide +kernel)
theorem dL_told_0 : decode cL_told 0 = .ok (.aload_n 3, 1) := by decide +kernel
theorem dL_told_1 : decode cL_told 1 = .ok (.iconst 0, 1) := by decide +kernel
theorem dL_told_2 : decode cL_told 2 = .ok (.aload_n 0, 1) := by decide +kernel
theorem dL_told_3 : decode cL_told 3 = .ok (.iload_n 1, 1) := by decide +kernel
theorem dL_told_4 : decode cL_told 4 = .ok (.iload_n 2, 1) := by decide +kernel
theorem dL_told_5 : decode cL_told 5 = .ok (.invokevirtual 55, 3) := by decide +kernel
theorem q_988 : (Cond.code yX10_told cX10_told 3 (some .char)) ∈ tw := tw_in (i := 988) (by decide +kernel) (by decide +kernel)
theorem q_985 : (Cond.methodLink "NightfallVillageLaw" 55 yX10_told) ∈ tw := tw_in (i := 985) (by decide +kernel) (by decide +kernel)
theorem q_986 : (Cond.instanceMethod yX10_told) ∈ tw := tw_in (i := 986) (by decide +kernel) (by decide +kernel)
theorem q_987 : (Cond.selects "NightfallVillage" yX10_told yX10_told) ∈ tw := tw_in (i := 987) (by decide +kernel) (by decide +kernel)
theorem dL_told_13 : decode cL_told 13 = .ok (.astore 4, 2) := by decide +kernel
theorem dL_told_15 : decode cL_told 15 = .ok (.iconst 1, 1) := by decide +kernel
theorem dL_told_16 : decode cL_told 16 = .ok (.ireturn, 1) := by decide +kernel
set_option maxHeartbeats 4000000 in
set_option maxRecDepth 100000 in
theorem c_L_told (l : Launch) (hst : l.stackTraces = false) (tE : Nat) (adK adV : Nat → Nat) (dC : Nat → ClassId) (dI : Nat → Nat → Nat) (h0 : Nat) (r0 : Nat) (d0 : Nat) (g0 : Nat) (g1 : Nat) (y1 : Nat) (s1 : Nat) (l1 : Nat) (w1 : Nat) (a1 : Nat) (a2 : Nat) (a3 : Nat) (a4 : Nat) (a5 : Nat) (a6 : Nat) (a7 : Nat) (b1 : Nat) (b2 : Nat) (b3 : Nat) (f0 : Nat) (n0 : Nat) (y0 : Nat) (z1 : Nat) (z2 : Nat) (z3 : Nat) (z4 : Nat) (z5 : Nat) (u0 : Nat) (p1 : Int32) (p2 : Int32) (sz : Nat) : vx_Met l yL_told (Cond.codeWith yL_told cL_told 5 (some .int) [(0, 10, 13, 23), (0, 10, 17, 53)] :: tw) ({ frames := 8, cells := 1, slots := 6, locals := 125 }) (va_Pc [.ref h0, .int p1, .int p2, .ref u0] (preR tE adK adV (dC, dI) [(h0, .inr (10, [.ref r0, .ref d0, .ref g0, .ref g1, .ref y1, .ref s1, .ref l1, .ref w1])), (r0, .inr (7, [.ref a1, .ref a2, .ref a3, .ref a4, .ref a5, .ref a6, .ref a7, .int 0])), (d0, .inr (2, [.ref b1, .ref b2, .ref b3, .int 0, .int (-1), .int (-1)])), (g0, .inr (4, [.ref f0, .ref n0, .ref y0, .int 0, .int 0, .int 0, .int 45])), (f0, .inr (3, [.ref r0, .ref d0, .ref z1, .ref z2, .ref z3, .ref z4, .ref z5, .int 0, .int 0]))] [] sz)) (va_Qi (fun (r : Int32) (_ : Unit) => r = 1) (fun (_ : Unit) (_ : State) => True) (fun q : Nat => sz ≤ q)) (vx_X (fun _ : Unit => True) (fun E (_ : Unit) (_ : State) => False) (fun q : Nat => sz ≤ q)) 1 6 (fun q : Nat => sz ≤ q) := by
  refine vx_ofWH (cc := cL_told) (maxL := 5) (ret := (some .int)) (hh := [(0, 10, 13, 23), (0, 10, 17, 53)]) (by decide) rfl ?_
  intro p e s m args below meth c s₁ B hml hv
  obtain ⟨rfl, hsz, hP, hK, ham⟩ := hv
  have hx := B.exec
  have hb := B.bytes
  have hr := B.returns
  have hts := atoms_spec B.pre
  have hq : ∀ w ∈ tw, w.before _ s = true := fun w h => hts w (List.mem_cons_of_mem _ h)
  have hown : s.vm.findClass RL = some m.cls := findClass_of_methodNamed B.named
  have hlocks := B.notSynchronized
  have htab := vx_table (x := yL_told) B (hq _ q_984)
  subst hsz
  generalize hAe : (fun q : Nat => s.heap.size ≤ q) = A at ham ⊢
  have hA : ∀ q : Nat, s.heap.size ≤ q → A q := fun q h => by rw [← hAe]; exact h
  have hS : va_S A s.heap s.heap [] := va_S.rf
  have hP : va_P (dC, dI) cls [(h0, .inr (10, [.ref r0, .ref d0, .ref g0, .ref g1, .ref y1, .ref s1, .ref l1, .ref w1])), (r0, .inr (7, [.ref a1, .ref a2, .ref a3, .ref a4, .ref a5, .ref a6, .ref a7, .int 0])), (d0, .inr (2, [.ref b1, .ref b2, .ref b3, .int 0, .int (-1), .int (-1)])), (g0, .inr (4, [.ref f0, .ref n0, .ref y0, .int 0, .int 0, .int 0, .int 45])), (f0, .inr (3, [.ref r0, .ref d0, .ref z1, .ref z2, .ref z3, .ref z4, .ref z5, .int 0, .int 0]))] s.heap := hP
  have hl := lv_entry ([.ref h0, .int p1, .int p2, .ref u0]) (n := 5) (Nat.le_of_ble_eq_true rfl)
  rw [lg_entry_eq]
  generalize (lg_sl ([.ref h0, .int p1, .int p2, .ref u0]) ++ List.replicate (5 - (lg_sl ([.ref h0, .int p1, .int p2, .ref u0])).length) Slot.unset).toArray = ls at hl ⊢
  have hl : lv_has ls 5 [(0, .ref h0), (1, .int p1), (2, .int p2), (3, .ref u0)] := hl
  refine lv_aload_n hx hb dL_told_0 rfl (lv_at hl 3 rfl) ?_
  refine lv_iconst (v := 0) hx hb dL_told_1 (by decide) ?_
  refine lv_aload_n hx hb dL_told_2 rfl (lv_at hl 0 rfl) ?_
  refine lv_iload_n hx hb dL_told_3 rfl (lv_at hl 1 rfl) ?_
  refine lv_iload_n hx hb dL_told_4 rfl (lv_at hl 2 rfl) ?_
  have hPc := hP.sub (ws' := [(h0, .inr (10, [.ref r0, .ref d0, .ref g0, .ref g1, .ref y1, .ref s1, .ref l1, .ref w1])), (r0, .inr (7, [.ref a1, .ref a2, .ref a3, .ref a4, .ref a5, .ref a6, .ref a7, .int 0])), (d0, .inr (2, [.ref b1, .ref b2, .ref b3, .int 0, .int (-1), .int (-1)])), (g0, .inr (4, [.ref f0, .ref n0, .ref y0, .int 0, .int 0, .int 0, .int 45])), (f0, .inr (3, [.ref r0, .ref d0, .ref z1, .ref z2, .ref z3, .ref z4, .ref z5, .int 0, .int 0]))]) [0, 1, 2, 3, 4] rfl
  have hKc := hK.sub (tys' := []) [] rfl
  refine vx_calli (vx_runV (As := [.int p1, .int p2]) (rest := [.int 0, .ref u0]) ⟨hx, hb, hml, hown, hq⟩ (c_X_told l hst tE adK adV dC dI h0 r0 d0 g0 g1 y1 s1 l1 w1 a1 a2 a3 a4 a5 a6 a7 b1 b2 b3 f0 n0 y0 z1 z2 z3 z4 z5 p1 p2 s.heap.size) (tcV 2 hq q_988 q_1 q_985 q_986 q_987 rfl rfl (by decide +kernel) ⟨Nat.le_of_ble_eq_true rfl, Nat.le_of_ble_eq_true rfl⟩) (preR.V (va_recv hK hP (ci := 10) (q0 := 0) rfl rfl) (preR.of hPc hKc ham hS hA)) rfl rfl hl.1 rfl (lv_room (Nat.le_of_ble_eq_true rfl)) dL_told_5 ⟨Nat.le_of_ble_eq_true rfl, Nat.le_of_ble_eq_true rfl⟩) hS (fun q _ h => hA q (Nat.le_trans hS.1 h)) (fun q h => hA q (Nat.le_trans hS.1 h)) (fun q _ h => hA q (Nat.le_trans hS.1 h)) (fun E ce q9 u t H1 locs ht hvm hpx hB hz1 hk1 hS hce hcv hcl => ?_) (fun r_1 u t H1 locs ht hvm hw hB hz1 hk1 hS => ?_)
  · have hE : E = "java/lang/IndexOutOfBoundsException" := hB
    subst hE
    refine vx_catch (own := RL) (name := "java/lang/IndexOutOfBoundsException") hown [] ⟨0, 10, 13, 23⟩ [⟨0, 10, 17, 53⟩] (htab.trans rfl) (fun z hz => by cases hz) (by decide) (by decide) (hq _ q_809) (hq _ q_821) hce hcv hcl ?_
    have hP : va_P (dC, dI) cls [(h0, .inr (10, [.ref r0, .ref d0, .ref g0, .ref g1, .ref y1, .ref s1, .ref l1, .ref w1])), (r0, .inr (7, [.ref a1, .ref a2, .ref a3, .ref a4, .ref a5, .ref a6, .ref a7, .int 0])), (d0, .inr (2, [.ref b1, .ref b2, .ref b3, .int 0, .int (-1), .int (-1)])), (g0, .inr (4, [.ref f0, .ref n0, .ref y0, .int 0, .int 0, .int 0, .int 45])), (f0, .inr (3, [.ref r0, .ref d0, .ref z1, .ref z2, .ref z3, .ref z4, .ref z5, .int 0, .int 0]))] H1 := ro_keep hP hk1
    generalize H1 = H at hP hS ⊢
    refine W.widen (k := 1) (n := 6) (Nat.le_of_ble_eq_true rfl) (Nat.le_of_ble_eq_true rfl) ?_
    refine lv_astore (lv' := [(4, .ref q9), (0, .ref h0), (1, .int p1), (2, .int p2), (3, .ref u0)]) hx hb dL_told_13 hl (by decide) rfl (fun ls hl => ?_)
    refine lv_iconst (v := 1) hx hb dL_told_15 (by decide) ?_
    refine W.widen (k := 1) (n := 6) (Nat.le_of_ble_eq_true rfl) (Nat.le_of_ble_eq_true rfl) ?_
    exact vx_ret (W.iret (v := 1) hx hb hr (fun t ht hW => ⟨⟨1, (), rfl, rfl, trivial⟩, hS.F ht⟩) hS.2.2 dL_told_16)
  · exact (hw : False).elim
abbrev cL_seen : ByteArray := method_14_code
def yL_seen : MethodName := ⟨RL, "seen", "(LNightfallVillage;II[J)I"⟩
theorem q_1005 : (Cond.codeWith yL_seen cL_seen 5 (some .int) [(0, 10, 13, 23), (0, 10, 17, 53)]) ∈ tw := tw_in (i := 1005) (by decide +kernel) (by decide +kernel)
theorem dL_seen_0 : decode cL_seen 0 = .ok (.aload_n 3, 1) := by decide +kernel
theorem dL_seen_1 : decode cL_seen 1 = .ok (.iconst 0, 1) := by decide +kernel
theorem dL_seen_2 : decode cL_seen 2 = .ok (.aload_n 0, 1) := by decide +kernel
theorem dL_seen_3 : decode cL_seen 3 = .ok (.iload_n 1, 1) := by decide +kernel
theorem dL_seen_4 : decode cL_seen 4 = .ok (.iload_n 2, 1) := by decide +kernel
theorem dL_seen_5 : decode cL_seen 5 = .ok (.invokevirtual 59, 3) := by decide +kernel
theorem q_1009 : (Cond.code yX10_seen cX10_seen 3 (some .int)) ∈ tw := tw_in (i := 1009) (by decide +kernel) (by decide +kernel)
theorem q_1006 : (Cond.methodLink "NightfallVillageLaw" 59 yX10_seen) ∈ tw := tw_in (i := 1006) (by decide +kernel) (by decide +kernel)
theorem q_1007 : (Cond.instanceMethod yX10_seen) ∈ tw := tw_in (i := 1007) (by decide +kernel) (by decide +kernel)
theorem q_1008 : (Cond.selects "NightfallVillage" yX10_seen yX10_seen) ∈ tw := tw_in (i := 1008) (by decide +kernel) (by decide +kernel)
theorem dL_seen_13 : decode cL_seen 13 = .ok (.astore 4, 2) := by decide +kernel
theorem dL_seen_15 : decode cL_seen 15 = .ok (.iconst 1, 1) := by decide +kernel
theorem dL_seen_16 : decode cL_seen 16 = .ok (.ireturn, 1) := by decide +kernel
set_option maxHeartbeats 4000000 in
set_option maxRecDepth 100000 in
theorem c_L_seen (l : Launch) (hst : l.stackTraces = false) (tE : Nat) (adK adV : Nat → Nat) (dC : Nat → ClassId) (dI : Nat → Nat → Nat) (h0 : Nat) (r0 : Nat) (d0 : Nat) (g0 : Nat) (g1 : Nat) (y1 : Nat) (s1 : Nat) (l1 : Nat) (w1 : Nat) (a1 : Nat) (a2 : Nat) (a3 : Nat) (a4 : Nat) (a5 : Nat) (a6 : Nat) (a7 : Nat) (b1 : Nat) (b2 : Nat) (b3 : Nat) (f0 : Nat) (n0 : Nat) (y0 : Nat) (z1 : Nat) (z2 : Nat) (z3 : Nat) (z4 : Nat) (z5 : Nat) (u0 : Nat) (p1 : Int32) (p2 : Int32) (sz : Nat) : vx_Met l yL_seen (Cond.codeWith yL_seen cL_seen 5 (some .int) [(0, 10, 13, 23), (0, 10, 17, 53)] :: tw) ({ frames := 8, cells := 1, slots := 6, locals := 125 }) (va_Pc [.ref h0, .int p1, .int p2, .ref u0] (preR tE adK adV (dC, dI) [(h0, .inr (10, [.ref r0, .ref d0, .ref g0, .ref g1, .ref y1, .ref s1, .ref l1, .ref w1])), (r0, .inr (7, [.ref a1, .ref a2, .ref a3, .ref a4, .ref a5, .ref a6, .ref a7, .int 0])), (d0, .inr (2, [.ref b1, .ref b2, .ref b3, .int 0, .int (-1), .int (-1)])), (g0, .inr (4, [.ref f0, .ref n0, .ref y0, .int 0, .int 0, .int 0, .int 45])), (f0, .inr (3, [.ref r0, .ref d0, .ref z1, .ref z2, .ref z3, .ref z4, .ref z5, .int 0, .int 0]))] [] sz)) (va_Qi (fun (r : Int32) (_ : Unit) => r = 1) (fun (_ : Unit) (_ : State) => True) (fun q : Nat => sz ≤ q)) (vx_X (fun _ : Unit => True) (fun E (_ : Unit) (_ : State) => False) (fun q : Nat => sz ≤ q)) 1 6 (fun q : Nat => sz ≤ q) := by
  refine vx_ofWH (cc := cL_seen) (maxL := 5) (ret := (some .int)) (hh := [(0, 10, 13, 23), (0, 10, 17, 53)]) (by decide) rfl ?_
  intro p e s m args below meth c s₁ B hml hv
  obtain ⟨rfl, hsz, hP, hK, ham⟩ := hv
  have hx := B.exec
  have hb := B.bytes
  have hr := B.returns
  have hts := atoms_spec B.pre
  have hq : ∀ w ∈ tw, w.before _ s = true := fun w h => hts w (List.mem_cons_of_mem _ h)
  have hown : s.vm.findClass RL = some m.cls := findClass_of_methodNamed B.named
  have hlocks := B.notSynchronized
  have htab := vx_table (x := yL_seen) B (hq _ q_1005)
  subst hsz
  generalize hAe : (fun q : Nat => s.heap.size ≤ q) = A at ham ⊢
  have hA : ∀ q : Nat, s.heap.size ≤ q → A q := fun q h => by rw [← hAe]; exact h
  have hS : va_S A s.heap s.heap [] := va_S.rf
  have hP : va_P (dC, dI) cls [(h0, .inr (10, [.ref r0, .ref d0, .ref g0, .ref g1, .ref y1, .ref s1, .ref l1, .ref w1])), (r0, .inr (7, [.ref a1, .ref a2, .ref a3, .ref a4, .ref a5, .ref a6, .ref a7, .int 0])), (d0, .inr (2, [.ref b1, .ref b2, .ref b3, .int 0, .int (-1), .int (-1)])), (g0, .inr (4, [.ref f0, .ref n0, .ref y0, .int 0, .int 0, .int 0, .int 45])), (f0, .inr (3, [.ref r0, .ref d0, .ref z1, .ref z2, .ref z3, .ref z4, .ref z5, .int 0, .int 0]))] s.heap := hP
  have hl := lv_entry ([.ref h0, .int p1, .int p2, .ref u0]) (n := 5) (Nat.le_of_ble_eq_true rfl)
  rw [lg_entry_eq]
  generalize (lg_sl ([.ref h0, .int p1, .int p2, .ref u0]) ++ List.replicate (5 - (lg_sl ([.ref h0, .int p1, .int p2, .ref u0])).length) Slot.unset).toArray = ls at hl ⊢
  have hl : lv_has ls 5 [(0, .ref h0), (1, .int p1), (2, .int p2), (3, .ref u0)] := hl
  refine lv_aload_n hx hb dL_seen_0 rfl (lv_at hl 3 rfl) ?_
  refine lv_iconst (v := 0) hx hb dL_seen_1 (by decide) ?_
  refine lv_aload_n hx hb dL_seen_2 rfl (lv_at hl 0 rfl) ?_
  refine lv_iload_n hx hb dL_seen_3 rfl (lv_at hl 1 rfl) ?_
  refine lv_iload_n hx hb dL_seen_4 rfl (lv_at hl 2 rfl) ?_
  have hPc := hP.sub (ws' := [(h0, .inr (10, [.ref r0, .ref d0, .ref g0, .ref g1, .ref y1, .ref s1, .ref l1, .ref w1])), (r0, .inr (7, [.ref a1, .ref a2, .ref a3, .ref a4, .ref a5, .ref a6, .ref a7, .int 0])), (d0, .inr (2, [.ref b1, .ref b2, .ref b3, .int 0, .int (-1), .int (-1)])), (g0, .inr (4, [.ref f0, .ref n0, .ref y0, .int 0, .int 0, .int 0, .int 45])), (f0, .inr (3, [.ref r0, .ref d0, .ref z1, .ref z2, .ref z3, .ref z4, .ref z5, .int 0, .int 0]))]) [0, 1, 2, 3, 4] rfl
  have hKc := hK.sub (tys' := []) [] rfl
  refine vx_calli (vx_runV (As := [.int p1, .int p2]) (rest := [.int 0, .ref u0]) ⟨hx, hb, hml, hown, hq⟩ (c_X_seen l hst tE adK adV dC dI h0 r0 d0 g0 g1 y1 s1 l1 w1 a1 a2 a3 a4 a5 a6 a7 b1 b2 b3 f0 n0 y0 z1 z2 z3 z4 z5 p1 p2 s.heap.size) (tcV 2 hq q_1009 q_1 q_1006 q_1007 q_1008 rfl rfl (by decide +kernel) ⟨Nat.le_of_ble_eq_true rfl, Nat.le_of_ble_eq_true rfl⟩) (preR.V (va_recv hK hP (ci := 10) (q0 := 0) rfl rfl) (preR.of hPc hKc ham hS hA)) rfl rfl hl.1 rfl (lv_room (Nat.le_of_ble_eq_true rfl)) dL_seen_5 ⟨Nat.le_of_ble_eq_true rfl, Nat.le_of_ble_eq_true rfl⟩) hS (fun q _ h => hA q (Nat.le_trans hS.1 h)) (fun q h => hA q (Nat.le_trans hS.1 h)) (fun q _ h => hA q (Nat.le_trans hS.1 h)) (fun E ce q9 u t H1 locs ht hvm hpx hB hz1 hk1 hS hce hcv hcl => ?_) (fun r_1 u t H1 locs ht hvm hw hB hz1 hk1 hS => ?_)
  · have hE : E = "java/lang/IndexOutOfBoundsException" := hB
    subst hE
    refine vx_catch (own := RL) (name := "java/lang/IndexOutOfBoundsException") hown [] ⟨0, 10, 13, 23⟩ [⟨0, 10, 17, 53⟩] (htab.trans rfl) (fun z hz => by cases hz) (by decide) (by decide) (hq _ q_809) (hq _ q_821) hce hcv hcl ?_
    have hP : va_P (dC, dI) cls [(h0, .inr (10, [.ref r0, .ref d0, .ref g0, .ref g1, .ref y1, .ref s1, .ref l1, .ref w1])), (r0, .inr (7, [.ref a1, .ref a2, .ref a3, .ref a4, .ref a5, .ref a6, .ref a7, .int 0])), (d0, .inr (2, [.ref b1, .ref b2, .ref b3, .int 0, .int (-1), .int (-1)])), (g0, .inr (4, [.ref f0, .ref n0, .ref y0, .int 0, .int 0, .int 0, .int 45])), (f0, .inr (3, [.ref r0, .ref d0, .ref z1, .ref z2, .ref z3, .ref z4, .ref z5, .int 0, .int 0]))] H1 := ro_keep hP hk1
    generalize H1 = H at hP hS ⊢
    refine W.widen (k := 1) (n := 6) (Nat.le_of_ble_eq_true rfl) (Nat.le_of_ble_eq_true rfl) ?_
    refine lv_astore (lv' := [(4, .ref q9), (0, .ref h0), (1, .int p1), (2, .int p2), (3, .ref u0)]) hx hb dL_seen_13 hl (by decide) rfl (fun ls hl => ?_)
    refine lv_iconst (v := 1) hx hb dL_seen_15 (by decide) ?_
    refine W.widen (k := 1) (n := 6) (Nat.le_of_ble_eq_true rfl) (Nat.le_of_ble_eq_true rfl) ?_
    exact vx_ret (W.iret (v := 1) hx hb hr (fun t ht hW => ⟨⟨1, (), rfl, rfl, trivial⟩, hS.F ht⟩) hS.2.2 dL_seen_16)
  · exact (hw : False).elim
abbrev cL_vote : ByteArray := method_15_code
def yL_vote : MethodName := ⟨RL, "vote", "(LNightfallVillage;II[J)I"⟩
theorem q_1016 : (Cond.codeWith yL_vote cL_vote 5 (some .int) [(0, 17, 20, 23), (0, 17, 24, 17), (0, 17, 28, 15)]) ∈ tw := tw_in (i := 1016) (by decide +kernel) (by decide +kernel)
theorem dL_vote_0 : decode cL_vote 0 = .ok (.aload_n 3, 1) := by decide +kernel
theorem dL_vote_1 : decode cL_vote 1 = .ok (.iconst 0, 1) := by decide +kernel
theorem dL_vote_2 : decode cL_vote 2 = .ok (.aload_n 0, 1) := by decide +kernel
theorem dL_vote_3 : decode cL_vote 3 = .ok (.iload_n 1, 1) := by decide +kernel
theorem dL_vote_4 : decode cL_vote 4 = .ok (.iload_n 2, 1) := by decide +kernel
theorem dL_vote_5 : decode cL_vote 5 = .ok (.invokevirtual 62, 3) := by decide +kernel
theorem q_1020 : (Cond.code yX10_vote cX10_vote 3 (some .boolean)) ∈ tw := tw_in (i := 1020) (by decide +kernel) (by decide +kernel)
theorem q_1017 : (Cond.methodLink "NightfallVillageLaw" 62 yX10_vote) ∈ tw := tw_in (i := 1017) (by decide +kernel) (by decide +kernel)
theorem q_1018 : (Cond.instanceMethod yX10_vote) ∈ tw := tw_in (i := 1018) (by decide +kernel) (by decide +kernel)
theorem q_1019 : (Cond.selects "NightfallVillage" yX10_vote yX10_vote) ∈ tw := tw_in (i := 1019) (by decide +kernel) (by decide +kernel)
theorem dL_vote_20 : decode cL_vote 20 = .ok (.astore 4, 2) := by decide +kernel
theorem dL_vote_22 : decode cL_vote 22 = .ok (.iconst 1, 1) := by decide +kernel
theorem dL_vote_23 : decode cL_vote 23 = .ok (.ireturn, 1) := by decide +kernel
set_option maxHeartbeats 4000000 in
set_option maxRecDepth 100000 in
theorem c_L_vote (l : Launch) (hst : l.stackTraces = false) (tE : Nat) (adK adV : Nat → Nat) (dC : Nat → ClassId) (dI : Nat → Nat → Nat) (h0 : Nat) (r0 : Nat) (d0 : Nat) (g0 : Nat) (g1 : Nat) (y1 : Nat) (s1 : Nat) (l1 : Nat) (w1 : Nat) (a1 : Nat) (a2 : Nat) (a3 : Nat) (a4 : Nat) (a5 : Nat) (a6 : Nat) (a7 : Nat) (b1 : Nat) (b2 : Nat) (b3 : Nat) (f0 : Nat) (n0 : Nat) (y0 : Nat) (z1 : Nat) (z2 : Nat) (z3 : Nat) (z4 : Nat) (z5 : Nat) (u0 : Nat) (p1 : Int32) (p2 : Int32) (sz : Nat) : vx_Met l yL_vote (Cond.codeWith yL_vote cL_vote 5 (some .int) [(0, 17, 20, 23), (0, 17, 24, 17), (0, 17, 28, 15)] :: tw) ({ frames := 8, cells := 1, slots := 6, locals := 125 }) (va_Pc [.ref h0, .int p1, .int p2, .ref u0] (preR tE adK adV (dC, dI) [(h0, .inr (10, [.ref r0, .ref d0, .ref g0, .ref g1, .ref y1, .ref s1, .ref l1, .ref w1])), (r0, .inr (7, [.ref a1, .ref a2, .ref a3, .ref a4, .ref a5, .ref a6, .ref a7, .int 0])), (d0, .inr (2, [.ref b1, .ref b2, .ref b3, .int 0, .int (-1), .int (-1)])), (g0, .inr (4, [.ref f0, .ref n0, .ref y0, .int 0, .int 0, .int 0, .int 45])), (f0, .inr (3, [.ref r0, .ref d0, .ref z1, .ref z2, .ref z3, .ref z4, .ref z5, .int 0, .int 0]))] [] sz)) (va_Qi (fun (r : Int32) (_ : Unit) => r = 1) (fun (_ : Unit) (_ : State) => True) (fun q : Nat => sz ≤ q)) (vx_X (fun _ : Unit => True) (fun E (_ : Unit) (_ : State) => False) (fun q : Nat => sz ≤ q)) 1 6 (fun q : Nat => sz ≤ q) := by
  refine vx_ofWH (cc := cL_vote) (maxL := 5) (ret := (some .int)) (hh := [(0, 17, 20, 23), (0, 17, 24, 17), (0, 17, 28, 15)]) (by decide) rfl ?_
  intro p e s m args below meth c s₁ B hml hv
  obtain ⟨rfl, hsz, hP, hK, ham⟩ := hv
  have hx := B.exec
  have hb := B.bytes
  have hr := B.returns
  have hts := atoms_spec B.pre
  have hq : ∀ w ∈ tw, w.before _ s = true := fun w h => hts w (List.mem_cons_of_mem _ h)
  have hown : s.vm.findClass RL = some m.cls := findClass_of_methodNamed B.named
  have hlocks := B.notSynchronized
  have htab := vx_table (x := yL_vote) B (hq _ q_1016)
  subst hsz
  generalize hAe : (fun q : Nat => s.heap.size ≤ q) = A at ham ⊢
  have hA : ∀ q : Nat, s.heap.size ≤ q → A q := fun q h => by rw [← hAe]; exact h
  have hS : va_S A s.heap s.heap [] := va_S.rf
  have hP : va_P (dC, dI) cls [(h0, .inr (10, [.ref r0, .ref d0, .ref g0, .ref g1, .ref y1, .ref s1, .ref l1, .ref w1])), (r0, .inr (7, [.ref a1, .ref a2, .ref a3, .ref a4, .ref a5, .ref a6, .ref a7, .int 0])), (d0, .inr (2, [.ref b1, .ref b2, .ref b3, .int 0, .int (-1), .int (-1)])), (g0, .inr (4, [.ref f0, .ref n0, .ref y0, .int 0, .int 0, .int 0, .int 45])), (f0, .inr (3, [.ref r0, .ref d0, .ref z1, .ref z2, .ref z3, .ref z4, .ref z5, .int 0, .int 0]))] s.heap := hP
  have hl := lv_entry ([.ref h0, .int p1, .int p2, .ref u0]) (n := 5) (Nat.le_of_ble_eq_true rfl)
  rw [lg_entry_eq]
  generalize (lg_sl ([.ref h0, .int p1, .int p2, .ref u0]) ++ List.replicate (5 - (lg_sl ([.ref h0, .int p1, .int p2, .ref u0])).length) Slot.unset).toArray = ls at hl ⊢
  have hl : lv_has ls 5 [(0, .ref h0), (1, .int p1), (2, .int p2), (3, .ref u0)] := hl
  refine lv_aload_n hx hb dL_vote_0 rfl (lv_at hl 3 rfl) ?_
  refine lv_iconst (v := 0) hx hb dL_vote_1 (by decide) ?_
  refine lv_aload_n hx hb dL_vote_2 rfl (lv_at hl 0 rfl) ?_
  refine lv_iload_n hx hb dL_vote_3 rfl (lv_at hl 1 rfl) ?_
  refine lv_iload_n hx hb dL_vote_4 rfl (lv_at hl 2 rfl) ?_
  have hPc := hP.sub (ws' := [(h0, .inr (10, [.ref r0, .ref d0, .ref g0, .ref g1, .ref y1, .ref s1, .ref l1, .ref w1])), (r0, .inr (7, [.ref a1, .ref a2, .ref a3, .ref a4, .ref a5, .ref a6, .ref a7, .int 0])), (d0, .inr (2, [.ref b1, .ref b2, .ref b3, .int 0, .int (-1), .int (-1)])), (g0, .inr (4, [.ref f0, .ref n0, .ref y0, .int 0, .int 0, .int 0, .int 45])), (f0, .inr (3, [.ref r0, .ref d0, .ref z1, .ref z2, .ref z3, .ref z4, .ref z5, .int 0, .int 0]))]) [0, 1, 2, 3, 4] rfl
  have hKc := hK.sub (tys' := []) [] rfl
  refine vx_calli (vx_runV (As := [.int p1, .int p2]) (rest := [.int 0, .ref u0]) ⟨hx, hb, hml, hown, hq⟩ (c_X_vote l hst tE adK adV dC dI h0 r0 d0 g0 g1 y1 s1 l1 w1 a1 a2 a3 a4 a5 a6 a7 b1 b2 b3 f0 n0 y0 z1 z2 z3 z4 z5 p1 p2 s.heap.size) (tcV 2 hq q_1020 q_1 q_1017 q_1018 q_1019 rfl rfl (by decide +kernel) ⟨Nat.le_of_ble_eq_true rfl, Nat.le_of_ble_eq_true rfl⟩) (preR.V (va_recv hK hP (ci := 10) (q0 := 0) rfl rfl) (preR.of hPc hKc ham hS hA)) rfl rfl hl.1 rfl (lv_room (Nat.le_of_ble_eq_true rfl)) dL_vote_5 ⟨Nat.le_of_ble_eq_true rfl, Nat.le_of_ble_eq_true rfl⟩) hS (fun q _ h => hA q (Nat.le_trans hS.1 h)) (fun q h => hA q (Nat.le_trans hS.1 h)) (fun q _ h => hA q (Nat.le_trans hS.1 h)) (fun E ce q9 u t H1 locs ht hvm hpx hB hz1 hk1 hS hce hcv hcl => ?_) (fun r_1 u t H1 locs ht hvm hw hB hz1 hk1 hS => ?_)
  · have hE : E = "java/lang/IndexOutOfBoundsException" := hB
    subst hE
    refine vx_catch (own := RL) (name := "java/lang/IndexOutOfBoundsException") hown [] ⟨0, 17, 20, 23⟩ [⟨0, 17, 24, 17⟩, ⟨0, 17, 28, 15⟩] (htab.trans rfl) (fun z hz => by cases hz) (by decide) (by decide) (hq _ q_809) (hq _ q_821) hce hcv hcl ?_
    have hP : va_P (dC, dI) cls [(h0, .inr (10, [.ref r0, .ref d0, .ref g0, .ref g1, .ref y1, .ref s1, .ref l1, .ref w1])), (r0, .inr (7, [.ref a1, .ref a2, .ref a3, .ref a4, .ref a5, .ref a6, .ref a7, .int 0])), (d0, .inr (2, [.ref b1, .ref b2, .ref b3, .int 0, .int (-1), .int (-1)])), (g0, .inr (4, [.ref f0, .ref n0, .ref y0, .int 0, .int 0, .int 0, .int 45])), (f0, .inr (3, [.ref r0, .ref d0, .ref z1, .ref z2, .ref z3, .ref z4, .ref z5, .int 0, .int 0]))] H1 := ro_keep hP hk1
    generalize H1 = H at hP hS ⊢
    refine W.widen (k := 1) (n := 6) (Nat.le_of_ble_eq_true rfl) (Nat.le_of_ble_eq_true rfl) ?_
    refine lv_astore (lv' := [(4, .ref q9), (0, .ref h0), (1, .int p1), (2, .int p2), (3, .ref u0)]) hx hb dL_vote_20 hl (by decide) rfl (fun ls hl => ?_)
    refine lv_iconst (v := 1) hx hb dL_vote_22 (by decide) ?_
    refine W.widen (k := 1) (n := 6) (Nat.le_of_ble_eq_true rfl) (Nat.le_of_ble_eq_true rfl) ?_
    exact vx_ret (W.iret (v := 1) hx hb hr (fun t ht hW => ⟨⟨1, (), rfl, rfl, trivial⟩, hS.F ht⟩) hS.2.2 dL_vote_23)
  · exact (hw : False).elim
abbrev cL_votes : ByteArray := method_16_code
def yL_votes : MethodName := ⟨RL, "votes", "(LNightfallVillage;I[J)I"⟩
theorem q_1026 : (Cond.codeWith yL_votes cL_votes 4 (some .int) [(0, 9, 12, 23), (0, 9, 15, 17), (0, 9, 18, 15)]) ∈ tw := tw_in (i := 1026) (by decide +kernel) (by decide +kernel)
theorem dL_votes_0 : decode cL_votes 0 = .ok (.aload_n 2, 1) := by decide +kernel
theorem dL_votes_1 : decode cL_votes 1 = .ok (.iconst 0, 1) := by decide +kernel
theorem dL_votes_2 : decode cL_votes 2 = .ok (.aload_n 0, 1) := by decide +kernel
theorem dL_votes_3 : decode cL_votes 3 = .ok (.iload_n 1, 1) := by decide +kernel
theorem dL_votes_4 : decode cL_votes 4 = .ok (.invokevirtual 65, 3) := by decide +kernel
theorem q_1030 : (Cond.code yX10_votes cX10_votes 2 (some .int)) ∈ tw := tw_in (i := 1030) (by decide +kernel) (by decide +kernel)
theorem q_1027 : (Cond.methodLink "NightfallVillageLaw" 65 yX10_votes) ∈ tw := tw_in (i := 1027) (by decide +kernel) (by decide +kernel)
theorem q_1028 : (Cond.instanceMethod yX10_votes) ∈ tw := tw_in (i := 1028) (by decide +kernel) (by decide +kernel)
theorem q_1029 : (Cond.selects "NightfallVillage" yX10_votes yX10_votes) ∈ tw := tw_in (i := 1029) (by decide +kernel) (by decide +kernel)
theorem dL_votes_12 : decode cL_votes 12 = .ok (.astore_n 3, 1) := by decide +kernel
theorem dL_votes_13 : decode cL_votes 13 = .ok (.iconst 1, 1) := by decide +kernel
theorem dL_votes_14 : decode cL_votes 14 = .ok (.ireturn, 1) := by decide +kernel
set_option maxHeartbeats 4000000 in
set_option maxRecDepth 100000 in
theorem c_L_votes (l : Launch) (hst : l.stackTraces = false) (tE : Nat) (adK adV : Nat → Nat) (dC : Nat → ClassId) (dI : Nat → Nat → Nat) (h0 : Nat) (r0 : Nat) (d0 : Nat) (g0 : Nat) (g1 : Nat) (y1 : Nat) (s1 : Nat) (l1 : Nat) (w1 : Nat) (a1 : Nat) (a2 : Nat) (a3 : Nat) (a4 : Nat) (a5 : Nat) (a6 : Nat) (a7 : Nat) (b1 : Nat) (b2 : Nat) (b3 : Nat) (f0 : Nat) (n0 : Nat) (y0 : Nat) (z1 : Nat) (z2 : Nat) (z3 : Nat) (z4 : Nat) (z5 : Nat) (u0 : Nat) (p1 : Int32) (sz : Nat) : vx_Met l yL_votes (Cond.codeWith yL_votes cL_votes 4 (some .int) [(0, 9, 12, 23), (0, 9, 15, 17), (0, 9, 18, 15)] :: tw) ({ frames := 8, cells := 1, slots := 6, locals := 124 }) (va_Pc [.ref h0, .int p1, .ref u0] (preR tE adK adV (dC, dI) [(h0, .inr (10, [.ref r0, .ref d0, .ref g0, .ref g1, .ref y1, .ref s1, .ref l1, .ref w1])), (r0, .inr (7, [.ref a1, .ref a2, .ref a3, .ref a4, .ref a5, .ref a6, .ref a7, .int 0])), (d0, .inr (2, [.ref b1, .ref b2, .ref b3, .int 0, .int (-1), .int (-1)])), (g0, .inr (4, [.ref f0, .ref n0, .ref y0, .int 0, .int 0, .int 0, .int 45])), (f0, .inr (3, [.ref r0, .ref d0, .ref z1, .ref z2, .ref z3, .ref z4, .ref z5, .int 0, .int 0]))] [] sz)) (va_Qi (fun (r : Int32) (_ : Unit) => r = 1) (fun (_ : Unit) (_ : State) => True) (fun q : Nat => sz ≤ q)) (vx_X (fun _ : Unit => True) (fun E (_ : Unit) (_ : State) => False) (fun q : Nat => sz ≤ q)) 1 6 (fun q : Nat => sz ≤ q) := by
  refine vx_ofWH (cc := cL_votes) (maxL := 4) (ret := (some .int)) (hh := [(0, 9, 12, 23), (0, 9, 15, 17), (0, 9, 18, 15)]) (by decide) rfl ?_
  intro p e s m args below meth c s₁ B hml hv
  obtain ⟨rfl, hsz, hP, hK, ham⟩ := hv
  have hx := B.exec
  have hb := B.bytes
  have hr := B.returns
  have hts := atoms_spec B.pre
  have hq : ∀ w ∈ tw, w.before _ s = true := fun w h => hts w (List.mem_cons_of_mem _ h)
  have hown : s.vm.findClass RL = some m.cls := findClass_of_methodNamed B.named
  have hlocks := B.notSynchronized
  have htab := vx_table (x := yL_votes) B (hq _ q_1026)
  subst hsz
  generalize hAe : (fun q : Nat => s.heap.size ≤ q) = A at ham ⊢
  have hA : ∀ q : Nat, s.heap.size ≤ q → A q := fun q h => by rw [← hAe]; exact h
  have hS : va_S A s.heap s.heap [] := va_S.rf
  have hP : va_P (dC, dI) cls [(h0, .inr (10, [.ref r0, .ref d0, .ref g0, .ref g1, .ref y1, .ref s1, .ref l1, .ref w1])), (r0, .inr (7, [.ref a1, .ref a2, .ref a3, .ref a4, .ref a5, .ref a6, .ref a7, .int 0])), (d0, .inr (2, [.ref b1, .ref b2, .ref b3, .int 0, .int (-1), .int (-1)])), (g0, .inr (4, [.ref f0, .ref n0, .ref y0, .int 0, .int 0, .int 0, .int 45])), (f0, .inr (3, [.ref r0, .ref d0, .ref z1, .ref z2, .ref z3, .ref z4, .ref z5, .int 0, .int 0]))] s.heap := hP
  have hl := lv_entry ([.ref h0, .int p1, .ref u0]) (n := 4) (Nat.le_of_ble_eq_true rfl)
  rw [lg_entry_eq]
  generalize (lg_sl ([.ref h0, .int p1, .ref u0]) ++ List.replicate (4 - (lg_sl ([.ref h0, .int p1, .ref u0])).length) Slot.unset).toArray = ls at hl ⊢
  have hl : lv_has ls 4 [(0, .ref h0), (1, .int p1), (2, .ref u0)] := hl
  refine lv_aload_n hx hb dL_votes_0 rfl (lv_at hl 2 rfl) ?_
  refine lv_iconst (v := 0) hx hb dL_votes_1 (by decide) ?_
  refine lv_aload_n hx hb dL_votes_2 rfl (lv_at hl 0 rfl) ?_
  refine lv_iload_n hx hb dL_votes_3 rfl (lv_at hl 1 rfl) ?_
  have hPc := hP.sub (ws' := [(h0, .inr (10, [.ref r0, .ref d0, .ref g0, .ref g1, .ref y1, .ref s1, .ref l1, .ref w1])), (r0, .inr (7, [.ref a1, .ref a2, .ref a3, .ref a4, .ref a5, .ref a6, .ref a7, .int 0])), (d0, .inr (2, [.ref b1, .ref b2, .ref b3, .int 0, .int (-1), .int (-1)])), (g0, .inr (4, [.ref f0, .ref n0, .ref y0, .int 0, .int 0, .int 0, .int 45])), (f0, .inr (3, [.ref r0, .ref d0, .ref z1, .ref z2, .ref z3, .ref z4, .ref z5, .int 0, .int 0]))]) [0, 1, 2, 3, 4] rfl
  have hKc := hK.sub (tys' := []) [] rfl
  refine vx_calli (vx_runV (As := [.int p1]) (rest := [.int 0, .ref u0]) ⟨hx, hb, hml, hown, hq⟩ (c_X_votes l hst tE adK adV dC dI h0 r0 d0 g0 g1 y1 s1 l1 w1 a1 a2 a3 a4 a5 a6 a7 b1 b2 b3 f0 n0 y0 z1 z2 z3 z4 z5 p1 s.heap.size) (tcV 1 hq q_1030 q_1 q_1027 q_1028 q_1029 rfl rfl (by decide +kernel) ⟨Nat.le_of_ble_eq_true rfl, Nat.le_of_ble_eq_true rfl⟩) (preR.V (va_recv hK hP (ci := 10) (q0 := 0) rfl rfl) (preR.of hPc hKc ham hS hA)) rfl rfl hl.1 rfl (lv_room (Nat.le_of_ble_eq_true rfl)) dL_votes_4 ⟨Nat.le_of_ble_eq_true rfl, Nat.le_of_ble_eq_true rfl⟩) hS (fun q _ h => hA q (Nat.le_trans hS.1 h)) (fun q h => hA q (Nat.le_trans hS.1 h)) (fun q _ h => hA q (Nat.le_trans hS.1 h)) (fun E ce q9 u t H1 locs ht hvm hpx hB hz1 hk1 hS hce hcv hcl => ?_) (fun r_1 u t H1 locs ht hvm hw hB hz1 hk1 hS => ?_)
  · have hE : E = "java/lang/IndexOutOfBoundsException" := hB
    subst hE
    refine vx_catch (own := RL) (name := "java/lang/IndexOutOfBoundsException") hown [] ⟨0, 9, 12, 23⟩ [⟨0, 9, 15, 17⟩, ⟨0, 9, 18, 15⟩] (htab.trans rfl) (fun z hz => by cases hz) (by decide) (by decide) (hq _ q_809) (hq _ q_821) hce hcv hcl ?_
    have hP : va_P (dC, dI) cls [(h0, .inr (10, [.ref r0, .ref d0, .ref g0, .ref g1, .ref y1, .ref s1, .ref l1, .ref w1])), (r0, .inr (7, [.ref a1, .ref a2, .ref a3, .ref a4, .ref a5, .ref a6, .ref a7, .int 0])), (d0, .inr (2, [.ref b1, .ref b2, .ref b3, .int 0, .int (-1), .int (-1)])), (g0, .inr (4, [.ref f0, .ref n0, .ref y0, .int 0, .int 0, .int 0, .int 45])), (f0, .inr (3, [.ref r0, .ref d0, .ref z1, .ref z2, .ref z3, .ref z4, .ref z5, .int 0, .int 0]))] H1 := ro_keep hP hk1
    generalize H1 = H at hP hS ⊢
    refine W.widen (k := 1) (n := 6) (Nat.le_of_ble_eq_true rfl) (Nat.le_of_ble_eq_true rfl) ?_
    refine lv_astore_n (lv' := [(3, .ref q9), (0, .ref h0), (1, .int p1), (2, .ref u0)]) hx hb dL_votes_12 rfl hl (by decide) rfl (fun ls hl => ?_)
    refine lv_iconst (v := 1) hx hb dL_votes_13 (by decide) ?_
    refine W.widen (k := 1) (n := 6) (Nat.le_of_ble_eq_true rfl) (Nat.le_of_ble_eq_true rfl) ?_
    exact vx_ret (W.iret (v := 1) hx hb hr (fun t ht hW => ⟨⟨1, (), rfl, rfl, trivial⟩, hS.F ht⟩) hS.2.2 dL_votes_14)
  · exact (hw : False).elim
abbrev cL_dusk : ByteArray := method_17_code
def yL_dusk : MethodName := ⟨RL, "dusk", "(LNightfallVillage;[J)I"⟩
theorem q_1039 : (Cond.codeWith yL_dusk cL_dusk 3 (some .int) [(0, 8, 11, 17), (0, 8, 14, 15)]) ∈ tw := tw_in (i := 1039) (by decide +kernel) (by decide +kernel)
theorem dL_dusk_0 : decode cL_dusk 0 = .ok (.aload_n 1, 1) := by decide +kernel
theorem dL_dusk_1 : decode cL_dusk 1 = .ok (.iconst 0, 1) := by decide +kernel
theorem dL_dusk_2 : decode cL_dusk 2 = .ok (.aload_n 0, 1) := by decide +kernel
theorem dL_dusk_3 : decode cL_dusk 3 = .ok (.invokevirtual 68, 3) := by decide +kernel
theorem q_1043 : (Cond.code yX10_dusk cX10_dusk 1 (some .int)) ∈ tw := tw_in (i := 1043) (by decide +kernel) (by decide +kernel)
theorem q_1040 : (Cond.methodLink "NightfallVillageLaw" 68 yX10_dusk) ∈ tw := tw_in (i := 1040) (by decide +kernel) (by decide +kernel)
theorem q_1041 : (Cond.instanceMethod yX10_dusk) ∈ tw := tw_in (i := 1041) (by decide +kernel) (by decide +kernel)
theorem q_1042 : (Cond.selects "NightfallVillage" yX10_dusk yX10_dusk) ∈ tw := tw_in (i := 1042) (by decide +kernel) (by decide +kernel)
theorem dL_dusk_11 : decode cL_dusk 11 = .ok (.astore_n 2, 1) := by decide +kernel
theorem dL_dusk_12 : decode cL_dusk 12 = .ok (.iconst 1, 1) := by decide +kernel
theorem dL_dusk_13 : decode cL_dusk 13 = .ok (.ireturn, 1) := by decide +kernel
set_option maxHeartbeats 4000000 in
set_option maxRecDepth 100000 in
theorem c_L_dusk (l : Launch) (hst : l.stackTraces = false) (tE : Nat) (adK adV : Nat → Nat) (dC : Nat → ClassId) (dI : Nat → Nat → Nat) (h0 : Nat) (r0 : Nat) (d0 : Nat) (g0 : Nat) (g1 : Nat) (y1 : Nat) (s1 : Nat) (l1 : Nat) (w1 : Nat) (a1 : Nat) (a2 : Nat) (a3 : Nat) (a4 : Nat) (a5 : Nat) (a6 : Nat) (a7 : Nat) (b1 : Nat) (b2 : Nat) (b3 : Nat) (f0 : Nat) (n0 : Nat) (y0 : Nat) (z1 : Nat) (z2 : Nat) (z3 : Nat) (z4 : Nat) (z5 : Nat) (u0 : Nat) (sz : Nat) : vx_Met l yL_dusk (Cond.codeWith yL_dusk cL_dusk 3 (some .int) [(0, 8, 11, 17), (0, 8, 14, 15)] :: tw) ({ frames := 8, cells := 1, slots := 6, locals := 122 }) (va_Pc [.ref h0, .ref u0] (preR tE adK adV (dC, dI) [(h0, .inr (10, [.ref r0, .ref d0, .ref g0, .ref g1, .ref y1, .ref s1, .ref l1, .ref w1])), (r0, .inr (7, [.ref a1, .ref a2, .ref a3, .ref a4, .ref a5, .ref a6, .ref a7, .int 0])), (d0, .inr (2, [.ref b1, .ref b2, .ref b3, .int 0, .int (-1), .int (-1)])), (g0, .inr (4, [.ref f0, .ref n0, .ref y0, .int 0, .int 0, .int 0, .int 45])), (f0, .inr (3, [.ref r0, .ref d0, .ref z1, .ref z2, .ref z3, .ref z4, .ref z5, .int 0, .int 0]))] [] sz)) (va_Qi (fun (r : Int32) (_ : Unit) => r = 1) (fun (_ : Unit) (_ : State) => True) (fun q : Nat => sz ≤ q)) (vx_X (fun _ : Unit => True) (fun E (_ : Unit) (_ : State) => False) (fun q : Nat => sz ≤ q)) 1 6 (fun q : Nat => sz ≤ q) := by
  refine vx_ofWH (cc := cL_dusk) (maxL := 3) (ret := (some .int)) (hh := [(0, 8, 11, 17), (0, 8, 14, 15)]) (by decide) rfl ?_
  intro p e s m args below meth c s₁ B hml hv
  obtain ⟨rfl, hsz, hP, hK, ham⟩ := hv
  have hx := B.exec
  have hb := B.bytes
  have hr := B.returns
  have hts := atoms_spec B.pre
  have hq : ∀ w ∈ tw, w.before _ s = true := fun w h => hts w (List.mem_cons_of_mem _ h)
  have hown : s.vm.findClass RL = some m.cls := findClass_of_methodNamed B.named
  have hlocks := B.notSynchronized
  have htab := vx_table (x := yL_dusk) B (hq _ q_1039)
  subst hsz
  generalize hAe : (fun q : Nat => s.heap.size ≤ q) = A at ham ⊢
  have hA : ∀ q : Nat, s.heap.size ≤ q → A q := fun q h => by rw [← hAe]; exact h
  have hS : va_S A s.heap s.heap [] := va_S.rf
  have hP : va_P (dC, dI) cls [(h0, .inr (10, [.ref r0, .ref d0, .ref g0, .ref g1, .ref y1, .ref s1, .ref l1, .ref w1])), (r0, .inr (7, [.ref a1, .ref a2, .ref a3, .ref a4, .ref a5, .ref a6, .ref a7, .int 0])), (d0, .inr (2, [.ref b1, .ref b2, .ref b3, .int 0, .int (-1), .int (-1)])), (g0, .inr (4, [.ref f0, .ref n0, .ref y0, .int 0, .int 0, .int 0, .int 45])), (f0, .inr (3, [.ref r0, .ref d0, .ref z1, .ref z2, .ref z3, .ref z4, .ref z5, .int 0, .int 0]))] s.heap := hP
  have hl := lv_entry ([.ref h0, .ref u0]) (n := 3) (Nat.le_of_ble_eq_true rfl)
  rw [lg_entry_eq]
  generalize (lg_sl ([.ref h0, .ref u0]) ++ List.replicate (3 - (lg_sl ([.ref h0, .ref u0])).length) Slot.unset).toArray = ls at hl ⊢
  have hl : lv_has ls 3 [(0, .ref h0), (1, .ref u0)] := hl
  refine lv_aload_n hx hb dL_dusk_0 rfl (lv_at hl 1 rfl) ?_
  refine lv_iconst (v := 0) hx hb dL_dusk_1 (by decide) ?_
  refine lv_aload_n hx hb dL_dusk_2 rfl (lv_at hl 0 rfl) ?_
  have hPc := hP.sub (ws' := [(h0, .inr (10, [.ref r0, .ref d0, .ref g0, .ref g1, .ref y1, .ref s1, .ref l1, .ref w1])), (r0, .inr (7, [.ref a1, .ref a2, .ref a3, .ref a4, .ref a5, .ref a6, .ref a7, .int 0])), (d0, .inr (2, [.ref b1, .ref b2, .ref b3, .int 0, .int (-1), .int (-1)])), (g0, .inr (4, [.ref f0, .ref n0, .ref y0, .int 0, .int 0, .int 0, .int 45])), (f0, .inr (3, [.ref r0, .ref d0, .ref z1, .ref z2, .ref z3, .ref z4, .ref z5, .int 0, .int 0]))]) [0, 1, 2, 3, 4] rfl
  have hKc := hK.sub (tys' := []) [] rfl
  refine vx_calli (vx_runV (As := []) (rest := [.int 0, .ref u0]) ⟨hx, hb, hml, hown, hq⟩ (c_X_dusk l hst tE adK adV dC dI h0 r0 d0 g0 g1 y1 s1 l1 w1 a1 a2 a3 a4 a5 a6 a7 b1 b2 b3 f0 n0 y0 z1 z2 z3 z4 z5 s.heap.size) (tcV 0 hq q_1043 q_1 q_1040 q_1041 q_1042 rfl rfl (by decide +kernel) ⟨Nat.le_of_ble_eq_true rfl, Nat.le_of_ble_eq_true rfl⟩) (preR.V (va_recv hK hP (ci := 10) (q0 := 0) rfl rfl) (preR.of hPc hKc ham hS hA)) rfl rfl hl.1 rfl (lv_room (Nat.le_of_ble_eq_true rfl)) dL_dusk_3 ⟨Nat.le_of_ble_eq_true rfl, Nat.le_of_ble_eq_true rfl⟩) hS (fun q _ h => hA q (Nat.le_trans hS.1 h)) (fun q h => hA q (Nat.le_trans hS.1 h)) (fun q _ h => hA q (Nat.le_trans hS.1 h)) (fun E ce q9 u t H1 locs ht hvm hpx hB hz1 hk1 hS hce hcv hcl => ?_) (fun r_1 u t H1 locs ht hvm hw hB hz1 hk1 hS => ?_)
  · have hE : E = "java/lang/IllegalStateException" := hB
    subst hE
    refine vx_catch (own := RL) (name := "java/lang/IllegalStateException") hown [] ⟨0, 8, 11, 17⟩ [⟨0, 8, 14, 15⟩] (htab.trans rfl) (fun z hz => by cases hz) (by decide) (by decide) (hq _ q_685) (hq _ q_788) hce hcv hcl ?_
    have hP : va_P (dC, dI) cls [(h0, .inr (10, [.ref r0, .ref d0, .ref g0, .ref g1, .ref y1, .ref s1, .ref l1, .ref w1])), (r0, .inr (7, [.ref a1, .ref a2, .ref a3, .ref a4, .ref a5, .ref a6, .ref a7, .int 0])), (d0, .inr (2, [.ref b1, .ref b2, .ref b3, .int 0, .int (-1), .int (-1)])), (g0, .inr (4, [.ref f0, .ref n0, .ref y0, .int 0, .int 0, .int 0, .int 45])), (f0, .inr (3, [.ref r0, .ref d0, .ref z1, .ref z2, .ref z3, .ref z4, .ref z5, .int 0, .int 0]))] H1 := ro_keep hP hk1
    generalize H1 = H at hP hS ⊢
    refine W.widen (k := 1) (n := 6) (Nat.le_of_ble_eq_true rfl) (Nat.le_of_ble_eq_true rfl) ?_
    refine lv_astore_n (lv' := [(2, .ref q9), (0, .ref h0), (1, .ref u0)]) hx hb dL_dusk_11 rfl hl (by decide) rfl (fun ls hl => ?_)
    refine lv_iconst (v := 1) hx hb dL_dusk_12 (by decide) ?_
    refine W.widen (k := 1) (n := 6) (Nat.le_of_ble_eq_true rfl) (Nat.le_of_ble_eq_true rfl) ?_
    exact vx_ret (W.iret (v := 1) hx hb hr (fun t ht hW => ⟨⟨1, (), rfl, rfl, trivial⟩, hS.F ht⟩) hS.2.2 dL_dusk_13)
  · exact (hw : False).elim
abbrev cL_isNight : ByteArray := method_18_code
def yL_isNight : MethodName := ⟨RL, "isNight", "(LNightfallVillage;[J)I"⟩
theorem q_1048 : (Cond.codeWith yL_isNight cL_isNight 3 (some .int) [(0, 15, 18, 17)]) ∈ tw := tw_in (i := 1048) (by decide +kernel) (by decide +kernel)
theorem dL_isNight_0 : decode cL_isNight 0 = .ok (.aload_n 1, 1) := by decide +kernel
theorem dL_isNight_1 : decode cL_isNight 1 = .ok (.iconst 0, 1) := by decide +kernel
theorem dL_isNight_2 : decode cL_isNight 2 = .ok (.aload_n 0, 1) := by decide +kernel
theorem dL_isNight_3 : decode cL_isNight 3 = .ok (.invokevirtual 71, 3) := by decide +kernel
theorem q_1052 : (Cond.code yX10_isNight cX10_isNight 1 (some .boolean)) ∈ tw := tw_in (i := 1052) (by decide +kernel) (by decide +kernel)
theorem q_1049 : (Cond.methodLink "NightfallVillageLaw" 71 yX10_isNight) ∈ tw := tw_in (i := 1049) (by decide +kernel) (by decide +kernel)
theorem q_1050 : (Cond.instanceMethod yX10_isNight) ∈ tw := tw_in (i := 1050) (by decide +kernel) (by decide +kernel)
theorem q_1051 : (Cond.selects "NightfallVillage" yX10_isNight yX10_isNight) ∈ tw := tw_in (i := 1051) (by decide +kernel) (by decide +kernel)
theorem dL_isNight_18 : decode cL_isNight 18 = .ok (.astore_n 2, 1) := by decide +kernel
theorem dL_isNight_19 : decode cL_isNight 19 = .ok (.iconst 1, 1) := by decide +kernel
theorem dL_isNight_20 : decode cL_isNight 20 = .ok (.ireturn, 1) := by decide +kernel
set_option maxHeartbeats 4000000 in
set_option maxRecDepth 100000 in
theorem c_L_isNight (l : Launch) (hst : l.stackTraces = false) (tE : Nat) (adK adV : Nat → Nat) (dC : Nat → ClassId) (dI : Nat → Nat → Nat) (h0 : Nat) (r0 : Nat) (d0 : Nat) (g0 : Nat) (g1 : Nat) (y1 : Nat) (s1 : Nat) (l1 : Nat) (w1 : Nat) (a1 : Nat) (a2 : Nat) (a3 : Nat) (a4 : Nat) (a5 : Nat) (a6 : Nat) (a7 : Nat) (b1 : Nat) (b2 : Nat) (b3 : Nat) (f0 : Nat) (n0 : Nat) (y0 : Nat) (z1 : Nat) (z2 : Nat) (z3 : Nat) (z4 : Nat) (z5 : Nat) (u0 : Nat) (sz : Nat) : vx_Met l yL_isNight (Cond.codeWith yL_isNight cL_isNight 3 (some .int) [(0, 15, 18, 17)] :: tw) ({ frames := 8, cells := 1, slots := 6, locals := 122 }) (va_Pc [.ref h0, .ref u0] (preR tE adK adV (dC, dI) [(h0, .inr (10, [.ref r0, .ref d0, .ref g0, .ref g1, .ref y1, .ref s1, .ref l1, .ref w1])), (r0, .inr (7, [.ref a1, .ref a2, .ref a3, .ref a4, .ref a5, .ref a6, .ref a7, .int 0])), (d0, .inr (2, [.ref b1, .ref b2, .ref b3, .int 0, .int (-1), .int (-1)])), (g0, .inr (4, [.ref f0, .ref n0, .ref y0, .int 0, .int 0, .int 0, .int 45])), (f0, .inr (3, [.ref r0, .ref d0, .ref z1, .ref z2, .ref z3, .ref z4, .ref z5, .int 0, .int 0]))] [] sz)) (va_Qi (fun (r : Int32) (_ : Unit) => r = 1) (fun (_ : Unit) (_ : State) => True) (fun q : Nat => sz ≤ q)) (vx_X (fun _ : Unit => True) (fun E (_ : Unit) (_ : State) => False) (fun q : Nat => sz ≤ q)) 1 6 (fun q : Nat => sz ≤ q) := by
  refine vx_ofWH (cc := cL_isNight) (maxL := 3) (ret := (some .int)) (hh := [(0, 15, 18, 17)]) (by decide) rfl ?_
  intro p e s m args below meth c s₁ B hml hv
  obtain ⟨rfl, hsz, hP, hK, ham⟩ := hv
  have hx := B.exec
  have hb := B.bytes
  have hr := B.returns
  have hts := atoms_spec B.pre
  have hq : ∀ w ∈ tw, w.before _ s = true := fun w h => hts w (List.mem_cons_of_mem _ h)
  have hown : s.vm.findClass RL = some m.cls := findClass_of_methodNamed B.named
  have hlocks := B.notSynchronized
  have htab := vx_table (x := yL_isNight) B (hq _ q_1048)
  subst hsz
  generalize hAe : (fun q : Nat => s.heap.size ≤ q) = A at ham ⊢
  have hA : ∀ q : Nat, s.heap.size ≤ q → A q := fun q h => by rw [← hAe]; exact h
  have hS : va_S A s.heap s.heap [] := va_S.rf
  have hP : va_P (dC, dI) cls [(h0, .inr (10, [.ref r0, .ref d0, .ref g0, .ref g1, .ref y1, .ref s1, .ref l1, .ref w1])), (r0, .inr (7, [.ref a1, .ref a2, .ref a3, .ref a4, .ref a5, .ref a6, .ref a7, .int 0])), (d0, .inr (2, [.ref b1, .ref b2, .ref b3, .int 0, .int (-1), .int (-1)])), (g0, .inr (4, [.ref f0, .ref n0, .ref y0, .int 0, .int 0, .int 0, .int 45])), (f0, .inr (3, [.ref r0, .ref d0, .ref z1, .ref z2, .ref z3, .ref z4, .ref z5, .int 0, .int 0]))] s.heap := hP
  have hl := lv_entry ([.ref h0, .ref u0]) (n := 3) (Nat.le_of_ble_eq_true rfl)
  rw [lg_entry_eq]
  generalize (lg_sl ([.ref h0, .ref u0]) ++ List.replicate (3 - (lg_sl ([.ref h0, .ref u0])).length) Slot.unset).toArray = ls at hl ⊢
  have hl : lv_has ls 3 [(0, .ref h0), (1, .ref u0)] := hl
  refine lv_aload_n hx hb dL_isNight_0 rfl (lv_at hl 1 rfl) ?_
  refine lv_iconst (v := 0) hx hb dL_isNight_1 (by decide) ?_
  refine lv_aload_n hx hb dL_isNight_2 rfl (lv_at hl 0 rfl) ?_
  have hPc := hP.sub (ws' := [(h0, .inr (10, [.ref r0, .ref d0, .ref g0, .ref g1, .ref y1, .ref s1, .ref l1, .ref w1])), (r0, .inr (7, [.ref a1, .ref a2, .ref a3, .ref a4, .ref a5, .ref a6, .ref a7, .int 0])), (d0, .inr (2, [.ref b1, .ref b2, .ref b3, .int 0, .int (-1), .int (-1)])), (g0, .inr (4, [.ref f0, .ref n0, .ref y0, .int 0, .int 0, .int 0, .int 45])), (f0, .inr (3, [.ref r0, .ref d0, .ref z1, .ref z2, .ref z3, .ref z4, .ref z5, .int 0, .int 0]))]) [0, 1, 2, 3, 4] rfl
  have hKc := hK.sub (tys' := []) [] rfl
  refine vx_calli (vx_runV (As := []) (rest := [.int 0, .ref u0]) ⟨hx, hb, hml, hown, hq⟩ (c_X_isNight l hst tE adK adV dC dI h0 r0 d0 g0 g1 y1 s1 l1 w1 a1 a2 a3 a4 a5 a6 a7 b1 b2 b3 f0 n0 y0 z1 z2 z3 z4 z5 s.heap.size) (tcV 0 hq q_1052 q_1 q_1049 q_1050 q_1051 rfl rfl (by decide +kernel) ⟨Nat.le_of_ble_eq_true rfl, Nat.le_of_ble_eq_true rfl⟩) (preR.V (va_recv hK hP (ci := 10) (q0 := 0) rfl rfl) (preR.of hPc hKc ham hS hA)) rfl rfl hl.1 rfl (lv_room (Nat.le_of_ble_eq_true rfl)) dL_isNight_3 ⟨Nat.le_of_ble_eq_true rfl, Nat.le_of_ble_eq_true rfl⟩) hS (fun q _ h => hA q (Nat.le_trans hS.1 h)) (fun q h => hA q (Nat.le_trans hS.1 h)) (fun q _ h => hA q (Nat.le_trans hS.1 h)) (fun E ce q9 u t H1 locs ht hvm hpx hB hz1 hk1 hS hce hcv hcl => ?_) (fun r_1 u t H1 locs ht hvm hw hB hz1 hk1 hS => ?_)
  · have hE : E = "java/lang/IllegalStateException" := hB
    subst hE
    refine vx_catch (own := RL) (name := "java/lang/IllegalStateException") hown [] ⟨0, 15, 18, 17⟩ [] (htab.trans rfl) (fun z hz => by cases hz) (by decide) (by decide) (hq _ q_685) (hq _ q_788) hce hcv hcl ?_
    have hP : va_P (dC, dI) cls [(h0, .inr (10, [.ref r0, .ref d0, .ref g0, .ref g1, .ref y1, .ref s1, .ref l1, .ref w1])), (r0, .inr (7, [.ref a1, .ref a2, .ref a3, .ref a4, .ref a5, .ref a6, .ref a7, .int 0])), (d0, .inr (2, [.ref b1, .ref b2, .ref b3, .int 0, .int (-1), .int (-1)])), (g0, .inr (4, [.ref f0, .ref n0, .ref y0, .int 0, .int 0, .int 0, .int 45])), (f0, .inr (3, [.ref r0, .ref d0, .ref z1, .ref z2, .ref z3, .ref z4, .ref z5, .int 0, .int 0]))] H1 := ro_keep hP hk1
    generalize H1 = H at hP hS ⊢
    refine W.widen (k := 1) (n := 6) (Nat.le_of_ble_eq_true rfl) (Nat.le_of_ble_eq_true rfl) ?_
    refine lv_astore_n (lv' := [(2, .ref q9), (0, .ref h0), (1, .ref u0)]) hx hb dL_isNight_18 rfl hl (by decide) rfl (fun ls hl => ?_)
    refine lv_iconst (v := 1) hx hb dL_isNight_19 (by decide) ?_
    refine W.widen (k := 1) (n := 6) (Nat.le_of_ble_eq_true rfl) (Nat.le_of_ble_eq_true rfl) ?_
    exact vx_ret (W.iret (v := 1) hx hb hr (fun t ht hW => ⟨⟨1, (), rfl, rfl, trivial⟩, hS.F ht⟩) hS.2.2 dL_isNight_20)
  · exact (hw : False).elim
abbrev cL_number : ByteArray := method_19_code
def yL_number : MethodName := ⟨RL, "number", "(LNightfallVillage;[J)I"⟩
theorem q_1055 : (Cond.codeWith yL_number cL_number 3 (some .int) [(0, 8, 11, 17)]) ∈ tw := tw_in (i := 1055) (by decide +kernel) (by decide +kernel)
theorem dL_number_0 : decode cL_number 0 = .ok (.aload_n 1, 1) := by decide +kernel
theorem dL_number_1 : decode cL_number 1 = .ok (.iconst 0, 1) := by decide +kernel
theorem dL_number_2 : decode cL_number 2 = .ok (.aload_n 0, 1) := by decide +kernel
theorem dL_number_3 : decode cL_number 3 = .ok (.invokevirtual 75, 3) := by decide +kernel
theorem q_1059 : (Cond.code yX10_number cX10_number 1 (some .int)) ∈ tw := tw_in (i := 1059) (by decide +kernel) (by decide +kernel)
theorem q_1056 : (Cond.methodLink "NightfallVillageLaw" 75 yX10_number) ∈ tw := tw_in (i := 1056) (by decide +kernel) (by decide +kernel)
theorem q_1057 : (Cond.instanceMethod yX10_number) ∈ tw := tw_in (i := 1057) (by decide +kernel) (by decide +kernel)
theorem q_1058 : (Cond.selects "NightfallVillage" yX10_number yX10_number) ∈ tw := tw_in (i := 1058) (by decide +kernel) (by decide +kernel)
theorem dL_number_11 : decode cL_number 11 = .ok (.astore_n 2, 1) := by decide +kernel
theorem dL_number_12 : decode cL_number 12 = .ok (.iconst 1, 1) := by decide +kernel
theorem dL_number_13 : decode cL_number 13 = .ok (.ireturn, 1) := by decide +kernel
set_option maxHeartbeats 4000000 in
set_option maxRecDepth 100000 in
theorem c_L_number (l : Launch) (hst : l.stackTraces = false) (tE : Nat) (adK adV : Nat → Nat) (dC : Nat → ClassId) (dI : Nat → Nat → Nat) (h0 : Nat) (r0 : Nat) (d0 : Nat) (g0 : Nat) (g1 : Nat) (y1 : Nat) (s1 : Nat) (l1 : Nat) (w1 : Nat) (a1 : Nat) (a2 : Nat) (a3 : Nat) (a4 : Nat) (a5 : Nat) (a6 : Nat) (a7 : Nat) (b1 : Nat) (b2 : Nat) (b3 : Nat) (f0 : Nat) (n0 : Nat) (y0 : Nat) (z1 : Nat) (z2 : Nat) (z3 : Nat) (z4 : Nat) (z5 : Nat) (u0 : Nat) (sz : Nat) : vx_Met l yL_number (Cond.codeWith yL_number cL_number 3 (some .int) [(0, 8, 11, 17)] :: tw) ({ frames := 8, cells := 1, slots := 6, locals := 122 }) (va_Pc [.ref h0, .ref u0] (preR tE adK adV (dC, dI) [(h0, .inr (10, [.ref r0, .ref d0, .ref g0, .ref g1, .ref y1, .ref s1, .ref l1, .ref w1])), (r0, .inr (7, [.ref a1, .ref a2, .ref a3, .ref a4, .ref a5, .ref a6, .ref a7, .int 0])), (d0, .inr (2, [.ref b1, .ref b2, .ref b3, .int 0, .int (-1), .int (-1)])), (g0, .inr (4, [.ref f0, .ref n0, .ref y0, .int 0, .int 0, .int 0, .int 45])), (f0, .inr (3, [.ref r0, .ref d0, .ref z1, .ref z2, .ref z3, .ref z4, .ref z5, .int 0, .int 0]))] [] sz)) (va_Qi (fun (r : Int32) (_ : Unit) => r = 1) (fun (_ : Unit) (_ : State) => True) (fun q : Nat => sz ≤ q)) (vx_X (fun _ : Unit => True) (fun E (_ : Unit) (_ : State) => False) (fun q : Nat => sz ≤ q)) 1 6 (fun q : Nat => sz ≤ q) := by
  refine vx_ofWH (cc := cL_number) (maxL := 3) (ret := (some .int)) (hh := [(0, 8, 11, 17)]) (by decide) rfl ?_
  intro p e s m args below meth c s₁ B hml hv
  obtain ⟨rfl, hsz, hP, hK, ham⟩ := hv
  have hx := B.exec
  have hb := B.bytes
  have hr := B.returns
  have hts := atoms_spec B.pre
  have hq : ∀ w ∈ tw, w.before _ s = true := fun w h => hts w (List.mem_cons_of_mem _ h)
  have hown : s.vm.findClass RL = some m.cls := findClass_of_methodNamed B.named
  have hlocks := B.notSynchronized
  have htab := vx_table (x := yL_number) B (hq _ q_1055)
  subst hsz
  generalize hAe : (fun q : Nat => s.heap.size ≤ q) = A at ham ⊢
  have hA : ∀ q : Nat, s.heap.size ≤ q → A q := fun q h => by rw [← hAe]; exact h
  have hS : va_S A s.heap s.heap [] := va_S.rf
  have hP : va_P (dC, dI) cls [(h0, .inr (10, [.ref r0, .ref d0, .ref g0, .ref g1, .ref y1, .ref s1, .ref l1, .ref w1])), (r0, .inr (7, [.ref a1, .ref a2, .ref a3, .ref a4, .ref a5, .ref a6, .ref a7, .int 0])), (d0, .inr (2, [.ref b1, .ref b2, .ref b3, .int 0, .int (-1), .int (-1)])), (g0, .inr (4, [.ref f0, .ref n0, .ref y0, .int 0, .int 0, .int 0, .int 45])), (f0, .inr (3, [.ref r0, .ref d0, .ref z1, .ref z2, .ref z3, .ref z4, .ref z5, .int 0, .int 0]))] s.heap := hP
  have hl := lv_entry ([.ref h0, .ref u0]) (n := 3) (Nat.le_of_ble_eq_true rfl)
  rw [lg_entry_eq]
  generalize (lg_sl ([.ref h0, .ref u0]) ++ List.replicate (3 - (lg_sl ([.ref h0, .ref u0])).length) Slot.unset).toArray = ls at hl ⊢
  have hl : lv_has ls 3 [(0, .ref h0), (1, .ref u0)] := hl
  refine lv_aload_n hx hb dL_number_0 rfl (lv_at hl 1 rfl) ?_
  refine lv_iconst (v := 0) hx hb dL_number_1 (by decide) ?_
  refine lv_aload_n hx hb dL_number_2 rfl (lv_at hl 0 rfl) ?_
  have hPc := hP.sub (ws' := [(h0, .inr (10, [.ref r0, .ref d0, .ref g0, .ref g1, .ref y1, .ref s1, .ref l1, .ref w1])), (r0, .inr (7, [.ref a1, .ref a2, .ref a3, .ref a4, .ref a5, .ref a6, .ref a7, .int 0])), (d0, .inr (2, [.ref b1, .ref b2, .ref b3, .int 0, .int (-1), .int (-1)])), (g0, .inr (4, [.ref f0, .ref n0, .ref y0, .int 0, .int 0, .int 0, .int 45])), (f0, .inr (3, [.ref r0, .ref d0, .ref z1, .ref z2, .ref z3, .ref z4, .ref z5, .int 0, .int 0]))]) [0, 1, 2, 3, 4] rfl
  have hKc := hK.sub (tys' := []) [] rfl
  refine vx_calli (vx_runV (As := []) (rest := [.int 0, .ref u0]) ⟨hx, hb, hml, hown, hq⟩ (c_X_number l hst tE adK adV dC dI h0 r0 d0 g0 g1 y1 s1 l1 w1 a1 a2 a3 a4 a5 a6 a7 b1 b2 b3 f0 n0 y0 z1 z2 z3 z4 z5 s.heap.size) (tcV 0 hq q_1059 q_1 q_1056 q_1057 q_1058 rfl rfl (by decide +kernel) ⟨Nat.le_of_ble_eq_true rfl, Nat.le_of_ble_eq_true rfl⟩) (preR.V (va_recv hK hP (ci := 10) (q0 := 0) rfl rfl) (preR.of hPc hKc ham hS hA)) rfl rfl hl.1 rfl (lv_room (Nat.le_of_ble_eq_true rfl)) dL_number_3 ⟨Nat.le_of_ble_eq_true rfl, Nat.le_of_ble_eq_true rfl⟩) hS (fun q _ h => hA q (Nat.le_trans hS.1 h)) (fun q h => hA q (Nat.le_trans hS.1 h)) (fun q _ h => hA q (Nat.le_trans hS.1 h)) (fun E ce q9 u t H1 locs ht hvm hpx hB hz1 hk1 hS hce hcv hcl => ?_) (fun r_1 u t H1 locs ht hvm hw hB hz1 hk1 hS => ?_)
  · have hE : E = "java/lang/IllegalStateException" := hB
    subst hE
    refine vx_catch (own := RL) (name := "java/lang/IllegalStateException") hown [] ⟨0, 8, 11, 17⟩ [] (htab.trans rfl) (fun z hz => by cases hz) (by decide) (by decide) (hq _ q_685) (hq _ q_788) hce hcv hcl ?_
    have hP : va_P (dC, dI) cls [(h0, .inr (10, [.ref r0, .ref d0, .ref g0, .ref g1, .ref y1, .ref s1, .ref l1, .ref w1])), (r0, .inr (7, [.ref a1, .ref a2, .ref a3, .ref a4, .ref a5, .ref a6, .ref a7, .int 0])), (d0, .inr (2, [.ref b1, .ref b2, .ref b3, .int 0, .int (-1), .int (-1)])), (g0, .inr (4, [.ref f0, .ref n0, .ref y0, .int 0, .int 0, .int 0, .int 45])), (f0, .inr (3, [.ref r0, .ref d0, .ref z1, .ref z2, .ref z3, .ref z4, .ref z5, .int 0, .int 0]))] H1 := ro_keep hP hk1
    generalize H1 = H at hP hS ⊢
    refine W.widen (k := 1) (n := 6) (Nat.le_of_ble_eq_true rfl) (Nat.le_of_ble_eq_true rfl) ?_
    refine lv_astore_n (lv' := [(2, .ref q9), (0, .ref h0), (1, .ref u0)]) hx hb dL_number_11 rfl hl (by decide) rfl (fun ls hl => ?_)
    refine lv_iconst (v := 1) hx hb dL_number_12 (by decide) ?_
    refine W.widen (k := 1) (n := 6) (Nat.le_of_ble_eq_true rfl) (Nat.le_of_ble_eq_true rfl) ?_
    exact vx_ret (W.iret (v := 1) hx hb hr (fun t ht hW => ⟨⟨1, (), rfl, rfl, trivial⟩, hS.F ht⟩) hS.2.2 dL_number_13)
  · exact (hw : False).elim
abbrev cL_isAlive : ByteArray := method_20_code
def yL_isAlive : MethodName := ⟨RL, "isAlive", "(LNightfallVillage;I[J)I"⟩
theorem q_1067 : (Cond.codeWith yL_isAlive cL_isAlive 4 (some .int) [(0, 16, 19, 23)]) ∈ tw := tw_in (i := 1067) (by decide +kernel) (by decide +kernel)
theorem dL_isAlive_0 : decode cL_isAlive 0 = .ok (.aload_n 2, 1) := by decide +kernel
theorem dL_isAlive_1 : decode cL_isAlive 1 = .ok (.iconst 0, 1) := by decide +kernel
theorem dL_isAlive_2 : decode cL_isAlive 2 = .ok (.aload_n 0, 1) := by decide +kernel
theorem dL_isAlive_3 : decode cL_isAlive 3 = .ok (.iload_n 1, 1) := by decide +kernel
theorem dL_isAlive_4 : decode cL_isAlive 4 = .ok (.invokevirtual 78, 3) := by decide +kernel
theorem q_1071 : (Cond.code yX10_isAlive cX10_isAlive 2 (some .boolean)) ∈ tw := tw_in (i := 1071) (by decide +kernel) (by decide +kernel)
theorem q_1068 : (Cond.methodLink "NightfallVillageLaw" 78 yX10_isAlive) ∈ tw := tw_in (i := 1068) (by decide +kernel) (by decide +kernel)
theorem q_1069 : (Cond.instanceMethod yX10_isAlive) ∈ tw := tw_in (i := 1069) (by decide +kernel) (by decide +kernel)
theorem q_1070 : (Cond.selects "NightfallVillage" yX10_isAlive yX10_isAlive) ∈ tw := tw_in (i := 1070) (by decide +kernel) (by decide +kernel)
theorem dL_isAlive_19 : decode cL_isAlive 19 = .ok (.astore_n 3, 1) := by decide +kernel
theorem dL_isAlive_20 : decode cL_isAlive 20 = .ok (.iconst 1, 1) := by decide +kernel
theorem dL_isAlive_21 : decode cL_isAlive 21 = .ok (.ireturn, 1) := by decide +kernel
set_option maxHeartbeats 4000000 in
set_option maxRecDepth 100000 in
theorem c_L_isAlive (l : Launch) (hst : l.stackTraces = false) (tE : Nat) (adK adV : Nat → Nat) (dC : Nat → ClassId) (dI : Nat → Nat → Nat) (h0 : Nat) (r0 : Nat) (d0 : Nat) (g0 : Nat) (g1 : Nat) (y1 : Nat) (s1 : Nat) (l1 : Nat) (w1 : Nat) (a1 : Nat) (a2 : Nat) (a3 : Nat) (a4 : Nat) (a5 : Nat) (a6 : Nat) (a7 : Nat) (b1 : Nat) (b2 : Nat) (b3 : Nat) (f0 : Nat) (n0 : Nat) (y0 : Nat) (z1 : Nat) (z2 : Nat) (z3 : Nat) (z4 : Nat) (z5 : Nat) (u0 : Nat) (p1 : Int32) (sz : Nat) : vx_Met l yL_isAlive (Cond.codeWith yL_isAlive cL_isAlive 4 (some .int) [(0, 16, 19, 23)] :: tw) ({ frames := 8, cells := 1, slots := 6, locals := 124 }) (va_Pc [.ref h0, .int p1, .ref u0] (preR tE adK adV (dC, dI) [(h0, .inr (10, [.ref r0, .ref d0, .ref g0, .ref g1, .ref y1, .ref s1, .ref l1, .ref w1])), (r0, .inr (7, [.ref a1, .ref a2, .ref a3, .ref a4, .ref a5, .ref a6, .ref a7, .int 0])), (d0, .inr (2, [.ref b1, .ref b2, .ref b3, .int 0, .int (-1), .int (-1)])), (g0, .inr (4, [.ref f0, .ref n0, .ref y0, .int 0, .int 0, .int 0, .int 45])), (f0, .inr (3, [.ref r0, .ref d0, .ref z1, .ref z2, .ref z3, .ref z4, .ref z5, .int 0, .int 0]))] [] sz)) (va_Qi (fun (r : Int32) (_ : Unit) => r = 1) (fun (_ : Unit) (_ : State) => True) (fun q : Nat => sz ≤ q)) (vx_X (fun _ : Unit => True) (fun E (_ : Unit) (_ : State) => False) (fun q : Nat => sz ≤ q)) 1 6 (fun q : Nat => sz ≤ q) := by
  refine vx_ofWH (cc := cL_isAlive) (maxL := 4) (ret := (some .int)) (hh := [(0, 16, 19, 23)]) (by decide) rfl ?_
  intro p e s m args below meth c s₁ B hml hv
  obtain ⟨rfl, hsz, hP, hK, ham⟩ := hv
  have hx := B.exec
  have hb := B.bytes
  have hr := B.returns
  have hts := atoms_spec B.pre
  have hq : ∀ w ∈ tw, w.before _ s = true := fun w h => hts w (List.mem_cons_of_mem _ h)
  have hown : s.vm.findClass RL = some m.cls := findClass_of_methodNamed B.named
  have hlocks := B.notSynchronized
  have htab := vx_table (x := yL_isAlive) B (hq _ q_1067)
  subst hsz
  generalize hAe : (fun q : Nat => s.heap.size ≤ q) = A at ham ⊢
  have hA : ∀ q : Nat, s.heap.size ≤ q → A q := fun q h => by rw [← hAe]; exact h
  have hS : va_S A s.heap s.heap [] := va_S.rf
  have hP : va_P (dC, dI) cls [(h0, .inr (10, [.ref r0, .ref d0, .ref g0, .ref g1, .ref y1, .ref s1, .ref l1, .ref w1])), (r0, .inr (7, [.ref a1, .ref a2, .ref a3, .ref a4, .ref a5, .ref a6, .ref a7, .int 0])), (d0, .inr (2, [.ref b1, .ref b2, .ref b3, .int 0, .int (-1), .int (-1)])), (g0, .inr (4, [.ref f0, .ref n0, .ref y0, .int 0, .int 0, .int 0, .int 45])), (f0, .inr (3, [.ref r0, .ref d0, .ref z1, .ref z2, .ref z3, .ref z4, .ref z5, .int 0, .int 0]))] s.heap := hP
  have hl := lv_entry ([.ref h0, .int p1, .ref u0]) (n := 4) (Nat.le_of_ble_eq_true rfl)
  rw [lg_entry_eq]
  generalize (lg_sl ([.ref h0, .int p1, .ref u0]) ++ List.replicate (4 - (lg_sl ([.ref h0, .int p1, .ref u0])).length) Slot.unset).toArray = ls at hl ⊢
  have hl : lv_has ls 4 [(0, .ref h0), (1, .int p1), (2, .ref u0)] := hl
  refine lv_aload_n hx hb dL_isAlive_0 rfl (lv_at hl 2 rfl) ?_
  refine lv_iconst (v := 0) hx hb dL_isAlive_1 (by decide) ?_
  refine lv_aload_n hx hb dL_isAlive_2 rfl (lv_at hl 0 rfl) ?_
  refine lv_iload_n hx hb dL_isAlive_3 rfl (lv_at hl 1 rfl) ?_
  have hPc := hP.sub (ws' := [(h0, .inr (10, [.ref r0, .ref d0, .ref g0, .ref g1, .ref y1, .ref s1, .ref l1, .ref w1])), (r0, .inr (7, [.ref a1, .ref a2, .ref a3, .ref a4, .ref a5, .ref a6, .ref a7, .int 0])), (d0, .inr (2, [.ref b1, .ref b2, .ref b3, .int 0, .int (-1), .int (-1)])), (g0, .inr (4, [.ref f0, .ref n0, .ref y0, .int 0, .int 0, .int 0, .int 45])), (f0, .inr (3, [.ref r0, .ref d0, .ref z1, .ref z2, .ref z3, .ref z4, .ref z5, .int 0, .int 0]))]) [0, 1, 2, 3, 4] rfl
  have hKc := hK.sub (tys' := []) [] rfl
  refine vx_calli (vx_runV (As := [.int p1]) (rest := [.int 0, .ref u0]) ⟨hx, hb, hml, hown, hq⟩ (c_X_isAlive l hst tE adK adV dC dI h0 r0 d0 g0 g1 y1 s1 l1 w1 a1 a2 a3 a4 a5 a6 a7 b1 b2 b3 f0 n0 y0 z1 z2 z3 z4 z5 p1 s.heap.size) (tcV 1 hq q_1071 q_1 q_1068 q_1069 q_1070 rfl rfl (by decide +kernel) ⟨Nat.le_of_ble_eq_true rfl, Nat.le_of_ble_eq_true rfl⟩) (preR.V (va_recv hK hP (ci := 10) (q0 := 0) rfl rfl) (preR.of hPc hKc ham hS hA)) rfl rfl hl.1 rfl (lv_room (Nat.le_of_ble_eq_true rfl)) dL_isAlive_4 ⟨Nat.le_of_ble_eq_true rfl, Nat.le_of_ble_eq_true rfl⟩) hS (fun q _ h => hA q (Nat.le_trans hS.1 h)) (fun q h => hA q (Nat.le_trans hS.1 h)) (fun q _ h => hA q (Nat.le_trans hS.1 h)) (fun E ce q9 u t H1 locs ht hvm hpx hB hz1 hk1 hS hce hcv hcl => ?_) (fun r_1 u t H1 locs ht hvm hw hB hz1 hk1 hS => ?_)
  · have hE : E = "java/lang/IndexOutOfBoundsException" := hB
    subst hE
    refine vx_catch (own := RL) (name := "java/lang/IndexOutOfBoundsException") hown [] ⟨0, 16, 19, 23⟩ [] (htab.trans rfl) (fun z hz => by cases hz) (by decide) (by decide) (hq _ q_809) (hq _ q_821) hce hcv hcl ?_
    have hP : va_P (dC, dI) cls [(h0, .inr (10, [.ref r0, .ref d0, .ref g0, .ref g1, .ref y1, .ref s1, .ref l1, .ref w1])), (r0, .inr (7, [.ref a1, .ref a2, .ref a3, .ref a4, .ref a5, .ref a6, .ref a7, .int 0])), (d0, .inr (2, [.ref b1, .ref b2, .ref b3, .int 0, .int (-1), .int (-1)])), (g0, .inr (4, [.ref f0, .ref n0, .ref y0, .int 0, .int 0, .int 0, .int 45])), (f0, .inr (3, [.ref r0, .ref d0, .ref z1, .ref z2, .ref z3, .ref z4, .ref z5, .int 0, .int 0]))] H1 := ro_keep hP hk1
    generalize H1 = H at hP hS ⊢
    refine W.widen (k := 1) (n := 6) (Nat.le_of_ble_eq_true rfl) (Nat.le_of_ble_eq_true rfl) ?_
    refine lv_astore_n (lv' := [(3, .ref q9), (0, .ref h0), (1, .int p1), (2, .ref u0)]) hx hb dL_isAlive_19 rfl hl (by decide) rfl (fun ls hl => ?_)
    refine lv_iconst (v := 1) hx hb dL_isAlive_20 (by decide) ?_
    refine W.widen (k := 1) (n := 6) (Nat.le_of_ble_eq_true rfl) (Nat.le_of_ble_eq_true rfl) ?_
    exact vx_ret (W.iret (v := 1) hx hb hr (fun t ht hW => ⟨⟨1, (), rfl, rfl, trivial⟩, hS.F ht⟩) hS.2.2 dL_isAlive_21)
  · exact (hw : False).elim
abbrev cL_death : ByteArray := method_22_code
def yL_death : MethodName := ⟨RL, "death", "(LNightfallVillage;I[J)I"⟩
theorem q_1084 : (Cond.codeWith yL_death cL_death 4 (some .int) [(0, 9, 12, 23)]) ∈ tw := tw_in (i := 1084) (by decide +kernel) (by decide +kernel)
theorem dL_death_0 : decode cL_death 0 = .ok (.aload_n 2, 1) := by decide +kernel
theorem dL_death_1 : decode cL_death 1 = .ok (.iconst 0, 1) := by decide +kernel
theorem dL_death_2 : decode cL_death 2 = .ok (.aload_n 0, 1) := by decide +kernel
theorem dL_death_3 : decode cL_death 3 = .ok (.iload_n 1, 1) := by decide +kernel
theorem dL_death_4 : decode cL_death 4 = .ok (.invokevirtual 85, 3) := by decide +kernel
theorem q_1088 : (Cond.code yX10_death cX10_death 2 (some .char)) ∈ tw := tw_in (i := 1088) (by decide +kernel) (by decide +kernel)
theorem q_1085 : (Cond.methodLink "NightfallVillageLaw" 85 yX10_death) ∈ tw := tw_in (i := 1085) (by decide +kernel) (by decide +kernel)
theorem q_1086 : (Cond.instanceMethod yX10_death) ∈ tw := tw_in (i := 1086) (by decide +kernel) (by decide +kernel)
theorem q_1087 : (Cond.selects "NightfallVillage" yX10_death yX10_death) ∈ tw := tw_in (i := 1087) (by decide +kernel) (by decide +kernel)
theorem dL_death_12 : decode cL_death 12 = .ok (.astore_n 3, 1) := by decide +kernel
theorem dL_death_13 : decode cL_death 13 = .ok (.iconst 1, 1) := by decide +kernel
theorem dL_death_14 : decode cL_death 14 = .ok (.ireturn, 1) := by decide +kernel
set_option maxHeartbeats 4000000 in
set_option maxRecDepth 100000 in
theorem c_L_death (l : Launch) (hst : l.stackTraces = false) (tE : Nat) (adK adV : Nat → Nat) (dC : Nat → ClassId) (dI : Nat → Nat → Nat) (h0 : Nat) (r0 : Nat) (d0 : Nat) (g0 : Nat) (g1 : Nat) (y1 : Nat) (s1 : Nat) (l1 : Nat) (w1 : Nat) (a1 : Nat) (a2 : Nat) (a3 : Nat) (a4 : Nat) (a5 : Nat) (a6 : Nat) (a7 : Nat) (b1 : Nat) (b2 : Nat) (b3 : Nat) (f0 : Nat) (n0 : Nat) (y0 : Nat) (z1 : Nat) (z2 : Nat) (z3 : Nat) (z4 : Nat) (z5 : Nat) (u0 : Nat) (p1 : Int32) (sz : Nat) : vx_Met l yL_death (Cond.codeWith yL_death cL_death 4 (some .int) [(0, 9, 12, 23)] :: tw) ({ frames := 8, cells := 1, slots := 6, locals := 124 }) (va_Pc [.ref h0, .int p1, .ref u0] (preR tE adK adV (dC, dI) [(h0, .inr (10, [.ref r0, .ref d0, .ref g0, .ref g1, .ref y1, .ref s1, .ref l1, .ref w1])), (r0, .inr (7, [.ref a1, .ref a2, .ref a3, .ref a4, .ref a5, .ref a6, .ref a7, .int 0])), (d0, .inr (2, [.ref b1, .ref b2, .ref b3, .int 0, .int (-1), .int (-1)])), (g0, .inr (4, [.ref f0, .ref n0, .ref y0, .int 0, .int 0, .int 0, .int 45])), (f0, .inr (3, [.ref r0, .ref d0, .ref z1, .ref z2, .ref z3, .ref z4, .ref z5, .int 0, .int 0]))] [] sz)) (va_Qi (fun (r : Int32) (_ : Unit) => r = 1) (fun (_ : Unit) (_ : State) => True) (fun q : Nat => sz ≤ q)) (vx_X (fun _ : Unit => True) (fun E (_ : Unit) (_ : State) => False) (fun q : Nat => sz ≤ q)) 1 6 (fun q : Nat => sz ≤ q) := by
  refine vx_ofWH (cc := cL_death) (maxL := 4) (ret := (some .int)) (hh := [(0, 9, 12, 23)]) (by decide) rfl ?_
  intro p e s m args below meth c s₁ B hml hv
  obtain ⟨rfl, hsz, hP, hK, ham⟩ := hv
  have hx := B.exec
  have hb := B.bytes
  have hr := B.returns
  have hts := atoms_spec B.pre
  have hq : ∀ w ∈ tw, w.before _ s = true := fun w h => hts w (List.mem_cons_of_mem _ h)
  have hown : s.vm.findClass RL = some m.cls := findClass_of_methodNamed B.named
  have hlocks := B.notSynchronized
  have htab := vx_table (x := yL_death) B (hq _ q_1084)
  subst hsz
  generalize hAe : (fun q : Nat => s.heap.size ≤ q) = A at ham ⊢
  have hA : ∀ q : Nat, s.heap.size ≤ q → A q := fun q h => by rw [← hAe]; exact h
  have hS : va_S A s.heap s.heap [] := va_S.rf
  have hP : va_P (dC, dI) cls [(h0, .inr (10, [.ref r0, .ref d0, .ref g0, .ref g1, .ref y1, .ref s1, .ref l1, .ref w1])), (r0, .inr (7, [.ref a1, .ref a2, .ref a3, .ref a4, .ref a5, .ref a6, .ref a7, .int 0])), (d0, .inr (2, [.ref b1, .ref b2, .ref b3, .int 0, .int (-1), .int (-1)])), (g0, .inr (4, [.ref f0, .ref n0, .ref y0, .int 0, .int 0, .int 0, .int 45])), (f0, .inr (3, [.ref r0, .ref d0, .ref z1, .ref z2, .ref z3, .ref z4, .ref z5, .int 0, .int 0]))] s.heap := hP
  have hl := lv_entry ([.ref h0, .int p1, .ref u0]) (n := 4) (Nat.le_of_ble_eq_true rfl)
  rw [lg_entry_eq]
  generalize (lg_sl ([.ref h0, .int p1, .ref u0]) ++ List.replicate (4 - (lg_sl ([.ref h0, .int p1, .ref u0])).length) Slot.unset).toArray = ls at hl ⊢
  have hl : lv_has ls 4 [(0, .ref h0), (1, .int p1), (2, .ref u0)] := hl
  refine lv_aload_n hx hb dL_death_0 rfl (lv_at hl 2 rfl) ?_
  refine lv_iconst (v := 0) hx hb dL_death_1 (by decide) ?_
  refine lv_aload_n hx hb dL_death_2 rfl (lv_at hl 0 rfl) ?_
  refine lv_iload_n hx hb dL_death_3 rfl (lv_at hl 1 rfl) ?_
  have hPc := hP.sub (ws' := [(h0, .inr (10, [.ref r0, .ref d0, .ref g0, .ref g1, .ref y1, .ref s1, .ref l1, .ref w1])), (r0, .inr (7, [.ref a1, .ref a2, .ref a3, .ref a4, .ref a5, .ref a6, .ref a7, .int 0])), (d0, .inr (2, [.ref b1, .ref b2, .ref b3, .int 0, .int (-1), .int (-1)])), (g0, .inr (4, [.ref f0, .ref n0, .ref y0, .int 0, .int 0, .int 0, .int 45])), (f0, .inr (3, [.ref r0, .ref d0, .ref z1, .ref z2, .ref z3, .ref z4, .ref z5, .int 0, .int 0]))]) [0, 1, 2, 3, 4] rfl
  have hKc := hK.sub (tys' := []) [] rfl
  refine vx_calli (vx_runV (As := [.int p1]) (rest := [.int 0, .ref u0]) ⟨hx, hb, hml, hown, hq⟩ (c_X_death l hst tE adK adV dC dI h0 r0 d0 g0 g1 y1 s1 l1 w1 a1 a2 a3 a4 a5 a6 a7 b1 b2 b3 f0 n0 y0 z1 z2 z3 z4 z5 p1 s.heap.size) (tcV 1 hq q_1088 q_1 q_1085 q_1086 q_1087 rfl rfl (by decide +kernel) ⟨Nat.le_of_ble_eq_true rfl, Nat.le_of_ble_eq_true rfl⟩) (preR.V (va_recv hK hP (ci := 10) (q0 := 0) rfl rfl) (preR.of hPc hKc ham hS hA)) rfl rfl hl.1 rfl (lv_room (Nat.le_of_ble_eq_true rfl)) dL_death_4 ⟨Nat.le_of_ble_eq_true rfl, Nat.le_of_ble_eq_true rfl⟩) hS (fun q _ h => hA q (Nat.le_trans hS.1 h)) (fun q h => hA q (Nat.le_trans hS.1 h)) (fun q _ h => hA q (Nat.le_trans hS.1 h)) (fun E ce q9 u t H1 locs ht hvm hpx hB hz1 hk1 hS hce hcv hcl => ?_) (fun r_1 u t H1 locs ht hvm hw hB hz1 hk1 hS => ?_)
  · have hE : E = "java/lang/IndexOutOfBoundsException" := hB
    subst hE
    refine vx_catch (own := RL) (name := "java/lang/IndexOutOfBoundsException") hown [] ⟨0, 9, 12, 23⟩ [] (htab.trans rfl) (fun z hz => by cases hz) (by decide) (by decide) (hq _ q_809) (hq _ q_821) hce hcv hcl ?_
    have hP : va_P (dC, dI) cls [(h0, .inr (10, [.ref r0, .ref d0, .ref g0, .ref g1, .ref y1, .ref s1, .ref l1, .ref w1])), (r0, .inr (7, [.ref a1, .ref a2, .ref a3, .ref a4, .ref a5, .ref a6, .ref a7, .int 0])), (d0, .inr (2, [.ref b1, .ref b2, .ref b3, .int 0, .int (-1), .int (-1)])), (g0, .inr (4, [.ref f0, .ref n0, .ref y0, .int 0, .int 0, .int 0, .int 45])), (f0, .inr (3, [.ref r0, .ref d0, .ref z1, .ref z2, .ref z3, .ref z4, .ref z5, .int 0, .int 0]))] H1 := ro_keep hP hk1
    generalize H1 = H at hP hS ⊢
    refine W.widen (k := 1) (n := 6) (Nat.le_of_ble_eq_true rfl) (Nat.le_of_ble_eq_true rfl) ?_
    refine lv_astore_n (lv' := [(3, .ref q9), (0, .ref h0), (1, .int p1), (2, .ref u0)]) hx hb dL_death_12 rfl hl (by decide) rfl (fun ls hl => ?_)
    refine lv_iconst (v := 1) hx hb dL_death_13 (by decide) ?_
    refine W.widen (k := 1) (n := 6) (Nat.le_of_ble_eq_true rfl) (Nat.le_of_ble_eq_true rfl) ?_
    exact vx_ret (W.iret (v := 1) hx hb hr (fun t ht hW => ⟨⟨1, (), rfl, rfl, trivial⟩, hS.F ht⟩) hS.2.2 dL_death_14)
  · exact (hw : False).elim
abbrev cL_roleOf : ByteArray := method_23_code
def yL_roleOf : MethodName := ⟨RL, "roleOf", "(LNightfallVillage;I[J)I"⟩
theorem q_1091 : (Cond.codeWith yL_roleOf cL_roleOf 4 (some .int) [(0, 9, 12, 23)]) ∈ tw := tw_in (i := 1091) (by decide +kernel) (by decide +kernel)
theorem dL_roleOf_0 : decode cL_roleOf 0 = .ok (.aload_n 2, 1) := by decide +kernel
theorem dL_roleOf_1 : decode cL_roleOf 1 = .ok (.iconst 0, 1) := by decide +kernel
theorem dL_roleOf_2 : decode cL_roleOf 2 = .ok (.aload_n 0, 1) := by decide +kernel
theorem dL_roleOf_3 : decode cL_roleOf 3 = .ok (.iload_n 1, 1) := by decide +kernel
theorem dL_roleOf_4 : decode cL_roleOf 4 = .ok (.invokevirtual 89, 3) := by decide +kernel
theorem q_1095 : (Cond.code yX10_roleOf cX10_roleOf 2 (some .int)) ∈ tw := tw_in (i := 1095) (by decide +kernel) (by decide +kernel)
theorem q_1092 : (Cond.methodLink "NightfallVillageLaw" 89 yX10_roleOf) ∈ tw := tw_in (i := 1092) (by decide +kernel) (by decide +kernel)
theorem q_1093 : (Cond.instanceMethod yX10_roleOf) ∈ tw := tw_in (i := 1093) (by decide +kernel) (by decide +kernel)
theorem q_1094 : (Cond.selects "NightfallVillage" yX10_roleOf yX10_roleOf) ∈ tw := tw_in (i := 1094) (by decide +kernel) (by decide +kernel)
theorem dL_roleOf_12 : decode cL_roleOf 12 = .ok (.astore_n 3, 1) := by decide +kernel
theorem dL_roleOf_13 : decode cL_roleOf 13 = .ok (.iconst 1, 1) := by decide +kernel
theorem dL_roleOf_14 : decode cL_roleOf 14 = .ok (.ireturn, 1) := by decide +kernel
set_option maxHeartbeats 4000000 in
set_option maxRecDepth 100000 in
theorem c_L_roleOf (l : Launch) (hst : l.stackTraces = false) (tE : Nat) (adK adV : Nat → Nat) (dC : Nat → ClassId) (dI : Nat → Nat → Nat) (h0 : Nat) (r0 : Nat) (d0 : Nat) (g0 : Nat) (g1 : Nat) (y1 : Nat) (s1 : Nat) (l1 : Nat) (w1 : Nat) (a1 : Nat) (a2 : Nat) (a3 : Nat) (a4 : Nat) (a5 : Nat) (a6 : Nat) (a7 : Nat) (b1 : Nat) (b2 : Nat) (b3 : Nat) (f0 : Nat) (n0 : Nat) (y0 : Nat) (z1 : Nat) (z2 : Nat) (z3 : Nat) (z4 : Nat) (z5 : Nat) (u0 : Nat) (p1 : Int32) (sz : Nat) : vx_Met l yL_roleOf (Cond.codeWith yL_roleOf cL_roleOf 4 (some .int) [(0, 9, 12, 23)] :: tw) ({ frames := 8, cells := 1, slots := 6, locals := 124 }) (va_Pc [.ref h0, .int p1, .ref u0] (preR tE adK adV (dC, dI) [(h0, .inr (10, [.ref r0, .ref d0, .ref g0, .ref g1, .ref y1, .ref s1, .ref l1, .ref w1])), (r0, .inr (7, [.ref a1, .ref a2, .ref a3, .ref a4, .ref a5, .ref a6, .ref a7, .int 0])), (d0, .inr (2, [.ref b1, .ref b2, .ref b3, .int 0, .int (-1), .int (-1)])), (g0, .inr (4, [.ref f0, .ref n0, .ref y0, .int 0, .int 0, .int 0, .int 45])), (f0, .inr (3, [.ref r0, .ref d0, .ref z1, .ref z2, .ref z3, .ref z4, .ref z5, .int 0, .int 0]))] [] sz)) (va_Qi (fun (r : Int32) (_ : Unit) => r = 1) (fun (_ : Unit) (_ : State) => True) (fun q : Nat => sz ≤ q)) (vx_X (fun _ : Unit => True) (fun E (_ : Unit) (_ : State) => False) (fun q : Nat => sz ≤ q)) 1 6 (fun q : Nat => sz ≤ q) := by
  refine vx_ofWH (cc := cL_roleOf) (maxL := 4) (ret := (some .int)) (hh := [(0, 9, 12, 23)]) (by decide) rfl ?_
  intro p e s m args below meth c s₁ B hml hv
  obtain ⟨rfl, hsz, hP, hK, ham⟩ := hv
  have hx := B.exec
  have hb := B.bytes
  have hr := B.returns
  have hts := atoms_spec B.pre
  have hq : ∀ w ∈ tw, w.before _ s = true := fun w h => hts w (List.mem_cons_of_mem _ h)
  have hown : s.vm.findClass RL = some m.cls := findClass_of_methodNamed B.named
  have hlocks := B.notSynchronized
  have htab := vx_table (x := yL_roleOf) B (hq _ q_1091)
  subst hsz
  generalize hAe : (fun q : Nat => s.heap.size ≤ q) = A at ham ⊢
  have hA : ∀ q : Nat, s.heap.size ≤ q → A q := fun q h => by rw [← hAe]; exact h
  have hS : va_S A s.heap s.heap [] := va_S.rf
  have hP : va_P (dC, dI) cls [(h0, .inr (10, [.ref r0, .ref d0, .ref g0, .ref g1, .ref y1, .ref s1, .ref l1, .ref w1])), (r0, .inr (7, [.ref a1, .ref a2, .ref a3, .ref a4, .ref a5, .ref a6, .ref a7, .int 0])), (d0, .inr (2, [.ref b1, .ref b2, .ref b3, .int 0, .int (-1), .int (-1)])), (g0, .inr (4, [.ref f0, .ref n0, .ref y0, .int 0, .int 0, .int 0, .int 45])), (f0, .inr (3, [.ref r0, .ref d0, .ref z1, .ref z2, .ref z3, .ref z4, .ref z5, .int 0, .int 0]))] s.heap := hP
  have hl := lv_entry ([.ref h0, .int p1, .ref u0]) (n := 4) (Nat.le_of_ble_eq_true rfl)
  rw [lg_entry_eq]
  generalize (lg_sl ([.ref h0, .int p1, .ref u0]) ++ List.replicate (4 - (lg_sl ([.ref h0, .int p1, .ref u0])).length) Slot.unset).toArray = ls at hl ⊢
  have hl : lv_has ls 4 [(0, .ref h0), (1, .int p1), (2, .ref u0)] := hl
  refine lv_aload_n hx hb dL_roleOf_0 rfl (lv_at hl 2 rfl) ?_
  refine lv_iconst (v := 0) hx hb dL_roleOf_1 (by decide) ?_
  refine lv_aload_n hx hb dL_roleOf_2 rfl (lv_at hl 0 rfl) ?_
  refine lv_iload_n hx hb dL_roleOf_3 rfl (lv_at hl 1 rfl) ?_
  have hPc := hP.sub (ws' := [(h0, .inr (10, [.ref r0, .ref d0, .ref g0, .ref g1, .ref y1, .ref s1, .ref l1, .ref w1])), (r0, .inr (7, [.ref a1, .ref a2, .ref a3, .ref a4, .ref a5, .ref a6, .ref a7, .int 0])), (d0, .inr (2, [.ref b1, .ref b2, .ref b3, .int 0, .int (-1), .int (-1)])), (g0, .inr (4, [.ref f0, .ref n0, .ref y0, .int 0, .int 0, .int 0, .int 45])), (f0, .inr (3, [.ref r0, .ref d0, .ref z1, .ref z2, .ref z3, .ref z4, .ref z5, .int 0, .int 0]))]) [0, 1, 2, 3, 4] rfl
  have hKc := hK.sub (tys' := []) [] rfl
  refine vx_calli (vx_runV (As := [.int p1]) (rest := [.int 0, .ref u0]) ⟨hx, hb, hml, hown, hq⟩ (c_X_roleOf l hst tE adK adV dC dI h0 r0 d0 g0 g1 y1 s1 l1 w1 a1 a2 a3 a4 a5 a6 a7 b1 b2 b3 f0 n0 y0 z1 z2 z3 z4 z5 p1 s.heap.size) (tcV 1 hq q_1095 q_1 q_1092 q_1093 q_1094 rfl rfl (by decide +kernel) ⟨Nat.le_of_ble_eq_true rfl, Nat.le_of_ble_eq_true rfl⟩) (preR.V (va_recv hK hP (ci := 10) (q0 := 0) rfl rfl) (preR.of hPc hKc ham hS hA)) rfl rfl hl.1 rfl (lv_room (Nat.le_of_ble_eq_true rfl)) dL_roleOf_4 ⟨Nat.le_of_ble_eq_true rfl, Nat.le_of_ble_eq_true rfl⟩) hS (fun q _ h => hA q (Nat.le_trans hS.1 h)) (fun q h => hA q (Nat.le_trans hS.1 h)) (fun q _ h => hA q (Nat.le_trans hS.1 h)) (fun E ce q9 u t H1 locs ht hvm hpx hB hz1 hk1 hS hce hcv hcl => ?_) (fun r_1 u t H1 locs ht hvm hw hB hz1 hk1 hS => ?_)
  · have hE : E = "java/lang/IndexOutOfBoundsException" := hB
    subst hE
    refine vx_catch (own := RL) (name := "java/lang/IndexOutOfBoundsException") hown [] ⟨0, 9, 12, 23⟩ [] (htab.trans rfl) (fun z hz => by cases hz) (by decide) (by decide) (hq _ q_809) (hq _ q_821) hce hcv hcl ?_
    have hP : va_P (dC, dI) cls [(h0, .inr (10, [.ref r0, .ref d0, .ref g0, .ref g1, .ref y1, .ref s1, .ref l1, .ref w1])), (r0, .inr (7, [.ref a1, .ref a2, .ref a3, .ref a4, .ref a5, .ref a6, .ref a7, .int 0])), (d0, .inr (2, [.ref b1, .ref b2, .ref b3, .int 0, .int (-1), .int (-1)])), (g0, .inr (4, [.ref f0, .ref n0, .ref y0, .int 0, .int 0, .int 0, .int 45])), (f0, .inr (3, [.ref r0, .ref d0, .ref z1, .ref z2, .ref z3, .ref z4, .ref z5, .int 0, .int 0]))] H1 := ro_keep hP hk1
    generalize H1 = H at hP hS ⊢
    refine W.widen (k := 1) (n := 6) (Nat.le_of_ble_eq_true rfl) (Nat.le_of_ble_eq_true rfl) ?_
    refine lv_astore_n (lv' := [(3, .ref q9), (0, .ref h0), (1, .int p1), (2, .ref u0)]) hx hb dL_roleOf_12 rfl hl (by decide) rfl (fun ls hl => ?_)
    refine lv_iconst (v := 1) hx hb dL_roleOf_13 (by decide) ?_
    refine W.widen (k := 1) (n := 6) (Nat.le_of_ble_eq_true rfl) (Nat.le_of_ble_eq_true rfl) ?_
    exact vx_ret (W.iret (v := 1) hx hb hr (fun t ht hW => ⟨⟨1, (), rfl, rfl, trivial⟩, hS.F ht⟩) hS.2.2 dL_roleOf_14)
  · exact (hw : False).elim
abbrev cL_dealt : ByteArray := method_24_code
def yL_dealt : MethodName := ⟨RL, "dealt", "(LNightfallVillage;I[J)I"⟩
theorem q_1098 : (Cond.codeWith yL_dealt cL_dealt 4 (some .int) [(0, 9, 12, 23)]) ∈ tw := tw_in (i := 1098) (by decide +kernel) (by decide +kernel)
theorem dL_dealt_0 : decode cL_dealt 0 = .ok (.aload_n 2, 1) := by decide +kernel
theorem dL_dealt_1 : decode cL_dealt 1 = .ok (.iconst 0, 1) := by decide +kernel
theorem dL_dealt_2 : decode cL_dealt 2 = .ok (.aload_n 0, 1) := by decide +kernel
theorem dL_dealt_3 : decode cL_dealt 3 = .ok (.iload_n 1, 1) := by decide +kernel
theorem dL_dealt_4 : decode cL_dealt 4 = .ok (.invokevirtual 92, 3) := by decide +kernel
theorem q_1102 : (Cond.code yX10_dealt cX10_dealt 2 (some .int)) ∈ tw := tw_in (i := 1102) (by decide +kernel) (by decide +kernel)
theorem q_1099 : (Cond.methodLink "NightfallVillageLaw" 92 yX10_dealt) ∈ tw := tw_in (i := 1099) (by decide +kernel) (by decide +kernel)
theorem q_1100 : (Cond.instanceMethod yX10_dealt) ∈ tw := tw_in (i := 1100) (by decide +kernel) (by decide +kernel)
theorem q_1101 : (Cond.selects "NightfallVillage" yX10_dealt yX10_dealt) ∈ tw := tw_in (i := 1101) (by decide +kernel) (by decide +kernel)
theorem dL_dealt_12 : decode cL_dealt 12 = .ok (.astore_n 3, 1) := by decide +kernel
theorem dL_dealt_13 : decode cL_dealt 13 = .ok (.iconst 1, 1) := by decide +kernel
theorem dL_dealt_14 : decode cL_dealt 14 = .ok (.ireturn, 1) := by decide +kernel
set_option maxHeartbeats 4000000 in
set_option maxRecDepth 100000 in
theorem c_L_dealt (l : Launch) (hst : l.stackTraces = false) (tE : Nat) (adK adV : Nat → Nat) (dC : Nat → ClassId) (dI : Nat → Nat → Nat) (h0 : Nat) (r0 : Nat) (d0 : Nat) (g0 : Nat) (g1 : Nat) (y1 : Nat) (s1 : Nat) (l1 : Nat) (w1 : Nat) (a1 : Nat) (a2 : Nat) (a3 : Nat) (a4 : Nat) (a5 : Nat) (a6 : Nat) (a7 : Nat) (b1 : Nat) (b2 : Nat) (b3 : Nat) (f0 : Nat) (n0 : Nat) (y0 : Nat) (z1 : Nat) (z2 : Nat) (z3 : Nat) (z4 : Nat) (z5 : Nat) (u0 : Nat) (p1 : Int32) (sz : Nat) : vx_Met l yL_dealt (Cond.codeWith yL_dealt cL_dealt 4 (some .int) [(0, 9, 12, 23)] :: tw) ({ frames := 8, cells := 1, slots := 6, locals := 124 }) (va_Pc [.ref h0, .int p1, .ref u0] (preR tE adK adV (dC, dI) [(h0, .inr (10, [.ref r0, .ref d0, .ref g0, .ref g1, .ref y1, .ref s1, .ref l1, .ref w1])), (r0, .inr (7, [.ref a1, .ref a2, .ref a3, .ref a4, .ref a5, .ref a6, .ref a7, .int 0])), (d0, .inr (2, [.ref b1, .ref b2, .ref b3, .int 0, .int (-1), .int (-1)])), (g0, .inr (4, [.ref f0, .ref n0, .ref y0, .int 0, .int 0, .int 0, .int 45])), (f0, .inr (3, [.ref r0, .ref d0, .ref z1, .ref z2, .ref z3, .ref z4, .ref z5, .int 0, .int 0]))] [] sz)) (va_Qi (fun (r : Int32) (_ : Unit) => r = 1) (fun (_ : Unit) (_ : State) => True) (fun q : Nat => sz ≤ q)) (vx_X (fun _ : Unit => True) (fun E (_ : Unit) (_ : State) => False) (fun q : Nat => sz ≤ q)) 1 6 (fun q : Nat => sz ≤ q) := by
  refine vx_ofWH (cc := cL_dealt) (maxL := 4) (ret := (some .int)) (hh := [(0, 9, 12, 23)]) (by decide) rfl ?_
  intro p e s m args below meth c s₁ B hml hv
  obtain ⟨rfl, hsz, hP, hK, ham⟩ := hv
  have hx := B.exec
  have hb := B.bytes
  have hr := B.returns
  have hts := atoms_spec B.pre
  have hq : ∀ w ∈ tw, w.before _ s = true := fun w h => hts w (List.mem_cons_of_mem _ h)
  have hown : s.vm.findClass RL = some m.cls := findClass_of_methodNamed B.named
  have hlocks := B.notSynchronized
  have htab := vx_table (x := yL_dealt) B (hq _ q_1098)
  subst hsz
  generalize hAe : (fun q : Nat => s.heap.size ≤ q) = A at ham ⊢
  have hA : ∀ q : Nat, s.heap.size ≤ q → A q := fun q h => by rw [← hAe]; exact h
  have hS : va_S A s.heap s.heap [] := va_S.rf
  have hP : va_P (dC, dI) cls [(h0, .inr (10, [.ref r0, .ref d0, .ref g0, .ref g1, .ref y1, .ref s1, .ref l1, .ref w1])), (r0, .inr (7, [.ref a1, .ref a2, .ref a3, .ref a4, .ref a5, .ref a6, .ref a7, .int 0])), (d0, .inr (2, [.ref b1, .ref b2, .ref b3, .int 0, .int (-1), .int (-1)])), (g0, .inr (4, [.ref f0, .ref n0, .ref y0, .int 0, .int 0, .int 0, .int 45])), (f0, .inr (3, [.ref r0, .ref d0, .ref z1, .ref z2, .ref z3, .ref z4, .ref z5, .int 0, .int 0]))] s.heap := hP
  have hl := lv_entry ([.ref h0, .int p1, .ref u0]) (n := 4) (Nat.le_of_ble_eq_true rfl)
  rw [lg_entry_eq]
  generalize (lg_sl ([.ref h0, .int p1, .ref u0]) ++ List.replicate (4 - (lg_sl ([.ref h0, .int p1, .ref u0])).length) Slot.unset).toArray = ls at hl ⊢
  have hl : lv_has ls 4 [(0, .ref h0), (1, .int p1), (2, .ref u0)] := hl
  refine lv_aload_n hx hb dL_dealt_0 rfl (lv_at hl 2 rfl) ?_
  refine lv_iconst (v := 0) hx hb dL_dealt_1 (by decide) ?_
  refine lv_aload_n hx hb dL_dealt_2 rfl (lv_at hl 0 rfl) ?_
  refine lv_iload_n hx hb dL_dealt_3 rfl (lv_at hl 1 rfl) ?_
  have hPc := hP.sub (ws' := [(h0, .inr (10, [.ref r0, .ref d0, .ref g0, .ref g1, .ref y1, .ref s1, .ref l1, .ref w1])), (r0, .inr (7, [.ref a1, .ref a2, .ref a3, .ref a4, .ref a5, .ref a6, .ref a7, .int 0])), (d0, .inr (2, [.ref b1, .ref b2, .ref b3, .int 0, .int (-1), .int (-1)])), (g0, .inr (4, [.ref f0, .ref n0, .ref y0, .int 0, .int 0, .int 0, .int 45])), (f0, .inr (3, [.ref r0, .ref d0, .ref z1, .ref z2, .ref z3, .ref z4, .ref z5, .int 0, .int 0]))]) [0, 1, 2, 3, 4] rfl
  have hKc := hK.sub (tys' := []) [] rfl
  refine vx_calli (vx_runV (As := [.int p1]) (rest := [.int 0, .ref u0]) ⟨hx, hb, hml, hown, hq⟩ (c_X_dealt l hst tE adK adV dC dI h0 r0 d0 g0 g1 y1 s1 l1 w1 a1 a2 a3 a4 a5 a6 a7 b1 b2 b3 f0 n0 y0 z1 z2 z3 z4 z5 p1 s.heap.size) (tcV 1 hq q_1102 q_1 q_1099 q_1100 q_1101 rfl rfl (by decide +kernel) ⟨Nat.le_of_ble_eq_true rfl, Nat.le_of_ble_eq_true rfl⟩) (preR.V (va_recv hK hP (ci := 10) (q0 := 0) rfl rfl) (preR.of hPc hKc ham hS hA)) rfl rfl hl.1 rfl (lv_room (Nat.le_of_ble_eq_true rfl)) dL_dealt_4 ⟨Nat.le_of_ble_eq_true rfl, Nat.le_of_ble_eq_true rfl⟩) hS (fun q _ h => hA q (Nat.le_trans hS.1 h)) (fun q h => hA q (Nat.le_trans hS.1 h)) (fun q _ h => hA q (Nat.le_trans hS.1 h)) (fun E ce q9 u t H1 locs ht hvm hpx hB hz1 hk1 hS hce hcv hcl => ?_) (fun r_1 u t H1 locs ht hvm hw hB hz1 hk1 hS => ?_)
  · have hE : E = "java/lang/IndexOutOfBoundsException" := hB
    subst hE
    refine vx_catch (own := RL) (name := "java/lang/IndexOutOfBoundsException") hown [] ⟨0, 9, 12, 23⟩ [] (htab.trans rfl) (fun z hz => by cases hz) (by decide) (by decide) (hq _ q_809) (hq _ q_821) hce hcv hcl ?_
    have hP : va_P (dC, dI) cls [(h0, .inr (10, [.ref r0, .ref d0, .ref g0, .ref g1, .ref y1, .ref s1, .ref l1, .ref w1])), (r0, .inr (7, [.ref a1, .ref a2, .ref a3, .ref a4, .ref a5, .ref a6, .ref a7, .int 0])), (d0, .inr (2, [.ref b1, .ref b2, .ref b3, .int 0, .int (-1), .int (-1)])), (g0, .inr (4, [.ref f0, .ref n0, .ref y0, .int 0, .int 0, .int 0, .int 45])), (f0, .inr (3, [.ref r0, .ref d0, .ref z1, .ref z2, .ref z3, .ref z4, .ref z5, .int 0, .int 0]))] H1 := ro_keep hP hk1
    generalize H1 = H at hP hS ⊢
    refine W.widen (k := 1) (n := 6) (Nat.le_of_ble_eq_true rfl) (Nat.le_of_ble_eq_true rfl) ?_
    refine lv_astore_n (lv' := [(3, .ref q9), (0, .ref h0), (1, .int p1), (2, .ref u0)]) hx hb dL_dealt_12 rfl hl (by decide) rfl (fun ls hl => ?_)
    refine lv_iconst (v := 1) hx hb dL_dealt_13 (by decide) ?_
    refine W.widen (k := 1) (n := 6) (Nat.le_of_ble_eq_true rfl) (Nat.le_of_ble_eq_true rfl) ?_
    exact vx_ret (W.iret (v := 1) hx hb hr (fun t ht hW => ⟨⟨1, (), rfl, rfl, trivial⟩, hS.F ht⟩) hS.2.2 dL_dealt_14)
  · exact (hw : False).elim
abbrev cL_isSilenced : ByteArray := method_25_code
def yL_isSilenced : MethodName := ⟨RL, "isSilenced", "(LNightfallVillage;I[J)I"⟩
theorem q_1109 : (Cond.codeWith yL_isSilenced cL_isSilenced 4 (some .int) [(0, 16, 19, 23), (0, 16, 22, 17), (0, 16, 25, 15)]) ∈ tw := tw_in (i := 1109) (by decide +kernel) (by decide +kernel)
theorem dL_isSilenced_0 : decode cL_isSilenced 0 = .ok (.aload_n 2, 1) := by decide +kernel
theorem dL_isSilenced_1 : decode cL_isSilenced 1 = .ok (.iconst 0, 1) := by decide +kernel
theorem dL_isSilenced_2 : decode cL_isSilenced 2 = .ok (.aload_n 0, 1) := by decide +kernel
theorem dL_isSilenced_3 : decode cL_isSilenced 3 = .ok (.iload_n 1, 1) := by decide +kernel
theorem dL_isSilenced_4 : decode cL_isSilenced 4 = .ok (.invokevirtual 95, 3) := by decide +kernel
theorem q_1113 : (Cond.code yX10_isSilenced cX10_isSilenced 2 (some .boolean)) ∈ tw := tw_in (i := 1113) (by decide +kernel) (by decide +kernel)
theorem q_1110 : (Cond.methodLink "NightfallVillageLaw" 95 yX10_isSilenced) ∈ tw := tw_in (i := 1110) (by decide +kernel) (by decide +kernel)
theorem q_1111 : (Cond.instanceMethod yX10_isSilenced) ∈ tw := tw_in (i := 1111) (by decide +kernel) (by decide +kernel)
theorem q_1112 : (Cond.selects "NightfallVillage" yX10_isSilenced yX10_isSilenced) ∈ tw := tw_in (i := 1112) (by decide +kernel) (by decide +kernel)
theorem dL_isSilenced_19 : decode cL_isSilenced 19 = .ok (.astore_n 3, 1) := by decide +kernel
theorem dL_isSilenced_20 : decode cL_isSilenced 20 = .ok (.iconst 1, 1) := by decide +kernel
theorem dL_isSilenced_21 : decode cL_isSilenced 21 = .ok (.ireturn, 1) := by decide +kernel
set_option maxHeartbeats 4000000 in
set_option maxRecDepth 100000 in
theorem c_L_isSilenced (l : Launch) (hst : l.stackTraces = false) (tE : Nat) (adK adV : Nat → Nat) (dC : Nat → ClassId) (dI : Nat → Nat → Nat) (h0 : Nat) (r0 : Nat) (d0 : Nat) (g0 : Nat) (g1 : Nat) (y1 : Nat) (s1 : Nat) (l1 : Nat) (w1 : Nat) (a1 : Nat) (a2 : Nat) (a3 : Nat) (a4 : Nat) (a5 : Nat) (a6 : Nat) (a7 : Nat) (b1 : Nat) (b2 : Nat) (b3 : Nat) (f0 : Nat) (n0 : Nat) (y0 : Nat) (z1 : Nat) (z2 : Nat) (z3 : Nat) (z4 : Nat) (z5 : Nat) (u0 : Nat) (p1 : Int32) (sz : Nat) : vx_Met l yL_isSilenced (Cond.codeWith yL_isSilenced cL_isSilenced 4 (some .int) [(0, 16, 19, 23), (0, 16, 22, 17), (0, 16, 25, 15)] :: tw) ({ frames := 8, cells := 1, slots := 6, locals := 124 }) (va_Pc [.ref h0, .int p1, .ref u0] (preR tE adK adV (dC, dI) [(h0, .inr (10, [.ref r0, .ref d0, .ref g0, .ref g1, .ref y1, .ref s1, .ref l1, .ref w1])), (r0, .inr (7, [.ref a1, .ref a2, .ref a3, .ref a4, .ref a5, .ref a6, .ref a7, .int 0])), (d0, .inr (2, [.ref b1, .ref b2, .ref b3, .int 0, .int (-1), .int (-1)])), (g0, .inr (4, [.ref f0, .ref n0, .ref y0, .int 0, .int 0, .int 0, .int 45])), (f0, .inr (3, [.ref r0, .ref d0, .ref z1, .ref z2, .ref z3, .ref z4, .ref z5, .int 0, .int 0]))] [] sz)) (va_Qi (fun (r : Int32) (_ : Unit) => r = 1) (fun (_ : Unit) (_ : State) => True) (fun q : Nat => sz ≤ q)) (vx_X (fun _ : Unit => True) (fun E (_ : Unit) (_ : State) => False) (fun q : Nat => sz ≤ q)) 1 6 (fun q : Nat => sz ≤ q) := by
  refine vx_ofWH (cc := cL_isSilenced) (maxL := 4) (ret := (some .int)) (hh := [(0, 16, 19, 23), (0, 16, 22, 17), (0, 16, 25, 15)]) (by decide) rfl ?_
  intro p e s m args below meth c s₁ B hml hv
  obtain ⟨rfl, hsz, hP, hK, ham⟩ := hv
  have hx := B.exec
  have hb := B.bytes
  have hr := B.returns
  have hts := atoms_spec B.pre
  have hq : ∀ w ∈ tw, w.before _ s = true := fun w h => hts w (List.mem_cons_of_mem _ h)
  have hown : s.vm.findClass RL = some m.cls := findClass_of_methodNamed B.named
  have hlocks := B.notSynchronized
  have htab := vx_table (x := yL_isSilenced) B (hq _ q_1109)
  subst hsz
  generalize hAe : (fun q : Nat => s.heap.size ≤ q) = A at ham ⊢
  have hA : ∀ q : Nat, s.heap.size ≤ q → A q := fun q h => by rw [← hAe]; exact h
  have hS : va_S A s.heap s.heap [] := va_S.rf
  have hP : va_P (dC, dI) cls [(h0, .inr (10, [.ref r0, .ref d0, .ref g0, .ref g1, .ref y1, .ref s1, .ref l1, .ref w1])), (r0, .inr (7, [.ref a1, .ref a2, .ref a3, .ref a4, .ref a5, .ref a6, .ref a7, .int 0])), (d0, .inr (2, [.ref b1, .ref b2, .ref b3, .int 0, .int (-1), .int (-1)])), (g0, .inr (4, [.ref f0, .ref n0, .ref y0, .int 0, .int 0, .int 0, .int 45])), (f0, .inr (3, [.ref r0, .ref d0, .ref z1, .ref z2, .ref z3, .ref z4, .ref z5, .int 0, .int 0]))] s.heap := hP
  have hl := lv_entry ([.ref h0, .int p1, .ref u0]) (n := 4) (Nat.le_of_ble_eq_true rfl)
  rw [lg_entry_eq]
  generalize (lg_sl ([.ref h0, .int p1, .ref u0]) ++ List.replicate (4 - (lg_sl ([.ref h0, .int p1, .ref u0])).length) Slot.unset).toArray = ls at hl ⊢
  have hl : lv_has ls 4 [(0, .ref h0), (1, .int p1), (2, .ref u0)] := hl
  refine lv_aload_n hx hb dL_isSilenced_0 rfl (lv_at hl 2 rfl) ?_
  refine lv_iconst (v := 0) hx hb dL_isSilenced_1 (by decide) ?_
  refine lv_aload_n hx hb dL_isSilenced_2 rfl (lv_at hl 0 rfl) ?_
  refine lv_iload_n hx hb dL_isSilenced_3 rfl (lv_at hl 1 rfl) ?_
  have hPc := hP.sub (ws' := [(h0, .inr (10, [.ref r0, .ref d0, .ref g0, .ref g1, .ref y1, .ref s1, .ref l1, .ref w1])), (r0, .inr (7, [.ref a1, .ref a2, .ref a3, .ref a4, .ref a5, .ref a6, .ref a7, .int 0])), (d0, .inr (2, [.ref b1, .ref b2, .ref b3, .int 0, .int (-1), .int (-1)])), (g0, .inr (4, [.ref f0, .ref n0, .ref y0, .int 0, .int 0, .int 0, .int 45])), (f0, .inr (3, [.ref r0, .ref d0, .ref z1, .ref z2, .ref z3, .ref z4, .ref z5, .int 0, .int 0]))]) [0, 1, 2, 3, 4] rfl
  have hKc := hK.sub (tys' := []) [] rfl
  refine vx_calli (vx_runV (As := [.int p1]) (rest := [.int 0, .ref u0]) ⟨hx, hb, hml, hown, hq⟩ (c_X_isSilenced l hst tE adK adV dC dI h0 r0 d0 g0 g1 y1 s1 l1 w1 a1 a2 a3 a4 a5 a6 a7 b1 b2 b3 f0 n0 y0 z1 z2 z3 z4 z5 p1 s.heap.size) (tcV 1 hq q_1113 q_1 q_1110 q_1111 q_1112 rfl rfl (by decide +kernel) ⟨Nat.le_of_ble_eq_true rfl, Nat.le_of_ble_eq_true rfl⟩) (preR.V (va_recv hK hP (ci := 10) (q0 := 0) rfl rfl) (preR.of hPc hKc ham hS hA)) rfl rfl hl.1 rfl (lv_room (Nat.le_of_ble_eq_true rfl)) dL_isSilenced_4 ⟨Nat.le_of_ble_eq_true rfl, Nat.le_of_ble_eq_true rfl⟩) hS (fun q _ h => hA q (Nat.le_trans hS.1 h)) (fun q h => hA q (Nat.le_trans hS.1 h)) (fun q _ h => hA q (Nat.le_trans hS.1 h)) (fun E ce q9 u t H1 locs ht hvm hpx hB hz1 hk1 hS hce hcv hcl => ?_) (fun r_1 u t H1 locs ht hvm hw hB hz1 hk1 hS => ?_)
  · have hE : E = "java/lang/IndexOutOfBoundsException" := hB
    subst hE
    refine vx_catch (own := RL) (name := "java/lang/IndexOutOfBoundsException") hown [] ⟨0, 16, 19, 23⟩ [⟨0, 16, 22, 17⟩, ⟨0, 16, 25, 15⟩] (htab.trans rfl) (fun z hz => by cases hz) (by decide) (by decide) (hq _ q_809) (hq _ q_821) hce hcv hcl ?_
    have hP : va_P (dC, dI) cls [(h0, .inr (10, [.ref r0, .ref d0, .ref g0, .ref g1, .ref y1, .ref s1, .ref l1, .ref w1])), (r0, .inr (7, [.ref a1, .ref a2, .ref a3, .ref a4, .ref a5, .ref a6, .ref a7, .int 0])), (d0, .inr (2, [.ref b1, .ref b2, .ref b3, .int 0, .int (-1), .int (-1)])), (g0, .inr (4, [.ref f0, .ref n0, .ref y0, .int 0, .int 0, .int 0, .int 45])), (f0, .inr (3, [.ref r0, .ref d0, .ref z1, .ref z2, .ref z3, .ref z4, .ref z5, .int 0, .int 0]))] H1 := ro_keep hP hk1
    generalize H1 = H at hP hS ⊢
    refine W.widen (k := 1) (n := 6) (Nat.le_of_ble_eq_true rfl) (Nat.le_of_ble_eq_true rfl) ?_
    refine lv_astore_n (lv' := [(3, .ref q9), (0, .ref h0), (1, .int p1), (2, .ref u0)]) hx hb dL_isSilenced_19 rfl hl (by decide) rfl (fun ls hl => ?_)
    refine lv_iconst (v := 1) hx hb dL_isSilenced_20 (by decide) ?_
    refine W.widen (k := 1) (n := 6) (Nat.le_of_ble_eq_true rfl) (Nat.le_of_ble_eq_true rfl) ?_
    exact vx_ret (W.iret (v := 1) hx hb hr (fun t ht hW => ⟨⟨1, (), rfl, rfl, trivial⟩, hS.F ht⟩) hS.2.2 dL_isSilenced_21)
  · exact (hw : False).elim
abbrev cL_hasGhostVote : ByteArray := method_26_code
def yL_hasGhostVote : MethodName := ⟨RL, "hasGhostVote", "(LNightfallVillage;I[J)I"⟩
theorem q_1117 : (Cond.codeWith yL_hasGhostVote cL_hasGhostVote 4 (some .int) [(0, 16, 19, 23), (0, 16, 22, 15)]) ∈ tw := tw_in (i := 1117) (by decide +kernel) (by decide +kernel)
theorem dL_hasGhostVote_0 : decode cL_hasGhostVote 0 = .ok (.aload_n 2, 1) := by decide +kernel
theorem dL_hasGhostVote_1 : decode cL_hasGhostVote 1 = .ok (.iconst 0, 1) := by decide +kernel
theorem dL_hasGhostVote_2 : decode cL_hasGhostVote 2 = .ok (.aload_n 0, 1) := by decide +kernel
theorem dL_hasGhostVote_3 : decode cL_hasGhostVote 3 = .ok (.iload_n 1, 1) := by decide +kernel
theorem dL_hasGhostVote_4 : decode cL_hasGhostVote 4 = .ok (.invokevirtual 98, 3) := by decide +kernel
theorem q_1121 : (Cond.code yX10_hasGhostVote cX10_hasGhostVote 2 (some .boolean)) ∈ tw := tw_in (i := 1121) (by decide +kernel) (by decide +kernel)
theorem q_1118 : (Cond.methodLink "NightfallVillageLaw" 98 yX10_hasGhostVote) ∈ tw := tw_in (i := 1118) (by decide +kernel) (by decide +kernel)
theorem q_1119 : (Cond.instanceMethod yX10_hasGhostVote) ∈ tw := tw_in (i := 1119) (by decide +kernel) (by decide +kernel)
theorem q_1120 : (Cond.selects "NightfallVillage" yX10_hasGhostVote yX10_hasGhostVote) ∈ tw := tw_in (i := 1120) (by decide +kernel) (by decide +kernel)
theorem dL_hasGhostVote_19 : decode cL_hasGhostVote 19 = .ok (.astore_n 3, 1) := by decide +kernel
theorem dL_hasGhostVote_20 : decode cL_hasGhostVote 20 = .ok (.iconst 1, 1) := by decide +kernel
theorem dL_hasGhostVote_21 : decode cL_hasGhostVote 21 = .ok (.ireturn, 1) := by decide +kernel
set_option maxHeartbeats 4000000 in
set_option maxRecDepth 100000 in
theorem c_L_hasGhostVote (l : Launch) (hst : l.stackTraces = false) (tE : Nat) (adK adV : Nat → Nat) (dC : Nat → ClassId) (dI : Nat → Nat → Nat) (h0 : Nat) (r0 : Nat) (d0 : Nat) (g0 : Nat) (g1 : Nat) (y1 : Nat) (s1 : Nat) (l1 : Nat) (w1 : Nat) (a1 : Nat) (a2 : Nat) (a3 : Nat) (a4 : Nat) (a5 : Nat) (a6 : Nat) (a7 : Nat) (b1 : Nat) (b2 : Nat) (b3 : Nat) (f0 : Nat) (n0 : Nat) (y0 : Nat) (z1 : Nat) (z2 : Nat) (z3 : Nat) (z4 : Nat) (z5 : Nat) (u0 : Nat) (p1 : Int32) (sz : Nat) : vx_Met l yL_hasGhostVote (Cond.codeWith yL_hasGhostVote cL_hasGhostVote 4 (some .int) [(0, 16, 19, 23), (0, 16, 22, 15)] :: tw) ({ frames := 8, cells := 1, slots := 6, locals := 124 }) (va_Pc [.ref h0, .int p1, .ref u0] (preR tE adK adV (dC, dI) [(h0, .inr (10, [.ref r0, .ref d0, .ref g0, .ref g1, .ref y1, .ref s1, .ref l1, .ref w1])), (r0, .inr (7, [.ref a1, .ref a2, .ref a3, .ref a4, .ref a5, .ref a6, .ref a7, .int 0])), (d0, .inr (2, [.ref b1, .ref b2, .ref b3, .int 0, .int (-1), .int (-1)])), (g0, .inr (4, [.ref f0, .ref n0, .ref y0, .int 0, .int 0, .int 0, .int 45])), (f0, .inr (3, [.ref r0, .ref d0, .ref z1, .ref z2, .ref z3, .ref z4, .ref z5, .int 0, .int 0]))] [] sz)) (va_Qi (fun (r : Int32) (_ : Unit) => r = 1) (fun (_ : Unit) (_ : State) => True) (fun q : Nat => sz ≤ q)) (vx_X (fun _ : Unit => True) (fun E (_ : Unit) (_ : State) => False) (fun q : Nat => sz ≤ q)) 1 6 (fun q : Nat => sz ≤ q) := by
  refine vx_ofWH (cc := cL_hasGhostVote) (maxL := 4) (ret := (some .int)) (hh := [(0, 16, 19, 23), (0, 16, 22, 15)]) (by decide) rfl ?_
  intro p e s m args below meth c s₁ B hml hv
  obtain ⟨rfl, hsz, hP, hK, ham⟩ := hv
  have hx := B.exec
  have hb := B.bytes
  have hr := B.returns
  have hts := atoms_spec B.pre
  have hq : ∀ w ∈ tw, w.before _ s = true := fun w h => hts w (List.mem_cons_of_mem _ h)
  have hown : s.vm.findClass RL = some m.cls := findClass_of_methodNamed B.named
  have hlocks := B.notSynchronized
  have htab := vx_table (x := yL_hasGhostVote) B (hq _ q_1117)
  subst hsz
  generalize hAe : (fun q : Nat => s.heap.size ≤ q) = A at ham ⊢
  have hA : ∀ q : Nat, s.heap.size ≤ q → A q := fun q h => by rw [← hAe]; exact h
  have hS : va_S A s.heap s.heap [] := va_S.rf
  have hP : va_P (dC, dI) cls [(h0, .inr (10, [.ref r0, .ref d0, .ref g0, .ref g1, .ref y1, .ref s1, .ref l1, .ref w1])), (r0, .inr (7, [.ref a1, .ref a2, .ref a3, .ref a4, .ref a5, .ref a6, .ref a7, .int 0])), (d0, .inr (2, [.ref b1, .ref b2, .ref b3, .int 0, .int (-1), .int (-1)])), (g0, .inr (4, [.ref f0, .ref n0, .ref y0, .int 0, .int 0, .int 0, .int 45])), (f0, .inr (3, [.ref r0, .ref d0, .ref z1, .ref z2, .ref z3, .ref z4, .ref z5, .int 0, .int 0]))] s.heap := hP
  have hl := lv_entry ([.ref h0, .int p1, .ref u0]) (n := 4) (Nat.le_of_ble_eq_true rfl)
  rw [lg_entry_eq]
  generalize (lg_sl ([.ref h0, .int p1, .ref u0]) ++ List.replicate (4 - (lg_sl ([.ref h0, .int p1, .ref u0])).length) Slot.unset).toArray = ls at hl ⊢
  have hl : lv_has ls 4 [(0, .ref h0), (1, .int p1), (2, .ref u0)] := hl
  refine lv_aload_n hx hb dL_hasGhostVote_0 rfl (lv_at hl 2 rfl) ?_
  refine lv_iconst (v := 0) hx hb dL_hasGhostVote_1 (by decide) ?_
  refine lv_aload_n hx hb dL_hasGhostVote_2 rfl (lv_at hl 0 rfl) ?_
  refine lv_iload_n hx hb dL_hasGhostVote_3 rfl (lv_at hl 1 rfl) ?_
  have hPc := hP.sub (ws' := [(h0, .inr (10, [.ref r0, .ref d0, .ref g0, .ref g1, .ref y1, .ref s1, .ref l1, .ref w1])), (r0, .inr (7, [.ref a1, .ref a2, .ref a3, .ref a4, .ref a5, .ref a6, .ref a7, .int 0])), (d0, .inr (2, [.ref b1, .ref b2, .ref b3, .int 0, .int (-1), .int (-1)])), (g0, .inr (4, [.ref f0, .ref n0, .ref y0, .int 0, .int 0, .int 0, .int 45])), (f0, .inr (3, [.ref r0, .ref d0, .ref z1, .ref z2, .ref z3, .ref z4, .ref z5, .int 0, .int 0]))]) [0, 1, 2, 3, 4] rfl
  have hKc := hK.sub (tys' := []) [] rfl
  refine vx_calli (vx_runV (As := [.int p1]) (rest := [.int 0, .ref u0]) ⟨hx, hb, hml, hown, hq⟩ (c_X_hasGhostVote l hst tE adK adV dC dI h0 r0 d0 g0 g1 y1 s1 l1 w1 a1 a2 a3 a4 a5 a6 a7 b1 b2 b3 f0 n0 y0 z1 z2 z3 z4 z5 p1 s.heap.size) (tcV 1 hq q_1121 q_1 q_1118 q_1119 q_1120 rfl rfl (by decide +kernel) ⟨Nat.le_of_ble_eq_true rfl, Nat.le_of_ble_eq_true rfl⟩) (preR.V (va_recv hK hP (ci := 10) (q0 := 0) rfl rfl) (preR.of hPc hKc ham hS hA)) rfl rfl hl.1 rfl (lv_room (Nat.le_of_ble_eq_true rfl)) dL_hasGhostVote_4 ⟨Nat.le_of_ble_eq_true rfl, Nat.le_of_ble_eq_true rfl⟩) hS (fun q _ h => hA q (Nat.le_trans hS.1 h)) (fun q h => hA q (Nat.le_trans hS.1 h)) (fun q _ h => hA q (Nat.le_trans hS.1 h)) (fun E ce q9 u t H1 locs ht hvm hpx hB hz1 hk1 hS hce hcv hcl => ?_) (fun r_1 u t H1 locs ht hvm hw hB hz1 hk1 hS => ?_)
  · have hE : E = "java/lang/IndexOutOfBoundsException" := hB
    subst hE
    refine vx_catch (own := RL) (name := "java/lang/IndexOutOfBoundsException") hown [] ⟨0, 16, 19, 23⟩ [⟨0, 16, 22, 15⟩] (htab.trans rfl) (fun z hz => by cases hz) (by decide) (by decide) (hq _ q_809) (hq _ q_821) hce hcv hcl ?_
    have hP : va_P (dC, dI) cls [(h0, .inr (10, [.ref r0, .ref d0, .ref g0, .ref g1, .ref y1, .ref s1, .ref l1, .ref w1])), (r0, .inr (7, [.ref a1, .ref a2, .ref a3, .ref a4, .ref a5, .ref a6, .ref a7, .int 0])), (d0, .inr (2, [.ref b1, .ref b2, .ref b3, .int 0, .int (-1), .int (-1)])), (g0, .inr (4, [.ref f0, .ref n0, .ref y0, .int 0, .int 0, .int 0, .int 45])), (f0, .inr (3, [.ref r0, .ref d0, .ref z1, .ref z2, .ref z3, .ref z4, .ref z5, .int 0, .int 0]))] H1 := ro_keep hP hk1
    generalize H1 = H at hP hS ⊢
    refine W.widen (k := 1) (n := 6) (Nat.le_of_ble_eq_true rfl) (Nat.le_of_ble_eq_true rfl) ?_
    refine lv_astore_n (lv' := [(3, .ref q9), (0, .ref h0), (1, .int p1), (2, .ref u0)]) hx hb dL_hasGhostVote_19 rfl hl (by decide) rfl (fun ls hl => ?_)
    refine lv_iconst (v := 1) hx hb dL_hasGhostVote_20 (by decide) ?_
    refine W.widen (k := 1) (n := 6) (Nat.le_of_ble_eq_true rfl) (Nat.le_of_ble_eq_true rfl) ?_
    exact vx_ret (W.iret (v := 1) hx hb hr (fun t ht hW => ⟨⟨1, (), rfl, rfl, trivial⟩, hS.F ht⟩) hS.2.2 dL_hasGhostVote_21)
  · exact (hw : False).elim
abbrev cL_score : ByteArray := method_27_code
def yL_score : MethodName := ⟨RL, "score", "(LNightfallVillage;I[J)I"⟩
theorem q_1126 : (Cond.codeWith yL_score cL_score 4 (some .int) [(0, 9, 12, 23), (0, 9, 15, 17)]) ∈ tw := tw_in (i := 1126) (by decide +kernel) (by decide +kernel)
theorem dL_score_0 : decode cL_score 0 = .ok (.aload_n 2, 1) := by decide +kernel
theorem dL_score_1 : decode cL_score 1 = .ok (.iconst 0, 1) := by decide +kernel
theorem dL_score_2 : decode cL_score 2 = .ok (.aload_n 0, 1) := by decide +kernel
theorem dL_score_3 : decode cL_score 3 = .ok (.iload_n 1, 1) := by decide +kernel
theorem dL_score_4 : decode cL_score 4 = .ok (.invokevirtual 101, 3) := by decide +kernel
theorem q_1130 : (Cond.code yX10_score cX10_score 4 (some .int)) ∈ tw := tw_in (i := 1130) (by decide +kernel) (by decide +kernel)
theorem q_1127 : (Cond.methodLink "NightfallVillageLaw" 101 yX10_score) ∈ tw := tw_in (i := 1127) (by decide +kernel) (by decide +kernel)
theorem q_1128 : (Cond.instanceMethod yX10_score) ∈ tw := tw_in (i := 1128) (by decide +kernel) (by decide +kernel)
theorem q_1129 : (Cond.selects "NightfallVillage" yX10_score yX10_score) ∈ tw := tw_in (i := 1129) (by decide +kernel) (by decide +kernel)
theorem dL_score_12 : decode cL_score 12 = .ok (.astore_n 3, 1) := by decide +kernel
theorem dL_score_13 : decode cL_score 13 = .ok (.iconst 1, 1) := by decide +kernel
theorem dL_score_14 : decode cL_score 14 = .ok (.ireturn, 1) := by decide +kernel
set_option maxHeartbeats 4000000 in
set_option maxRecDepth 100000 in
theorem c_L_score (l : Launch) (hst : l.stackTraces = false) (tE : Nat) (adK adV : Nat → Nat) (dC : Nat → ClassId) (dI : Nat → Nat → Nat) (h0 : Nat) (r0 : Nat) (d0 : Nat) (g0 : Nat) (g1 : Nat) (y1 : Nat) (s1 : Nat) (l1 : Nat) (w1 : Nat) (a1 : Nat) (a2 : Nat) (a3 : Nat) (a4 : Nat) (a5 : Nat) (a6 : Nat) (a7 : Nat) (b1 : Nat) (b2 : Nat) (b3 : Nat) (f0 : Nat) (n0 : Nat) (y0 : Nat) (z1 : Nat) (z2 : Nat) (z3 : Nat) (z4 : Nat) (z5 : Nat) (u0 : Nat) (p1 : Int32) (sz : Nat) : vx_Met l yL_score (Cond.codeWith yL_score cL_score 4 (some .int) [(0, 9, 12, 23), (0, 9, 15, 17)] :: tw) ({ frames := 8, cells := 1, slots := 6, locals := 126 }) (va_Pc [.ref h0, .int p1, .ref u0] (preR tE adK adV (dC, dI) [(h0, .inr (10, [.ref r0, .ref d0, .ref g0, .ref g1, .ref y1, .ref s1, .ref l1, .ref w1])), (r0, .inr (7, [.ref a1, .ref a2, .ref a3, .ref a4, .ref a5, .ref a6, .ref a7, .int 0])), (d0, .inr (2, [.ref b1, .ref b2, .ref b3, .int 0, .int (-1), .int (-1)])), (g0, .inr (4, [.ref f0, .ref n0, .ref y0, .int 0, .int 0, .int 0, .int 45])), (f0, .inr (3, [.ref r0, .ref d0, .ref z1, .ref z2, .ref z3, .ref z4, .ref z5, .int 0, .int 0]))] [] sz)) (va_Qi (fun (r : Int32) (_ : Unit) => r = 1) (fun (_ : Unit) (_ : State) => True) (fun q : Nat => sz ≤ q)) (vx_X (fun _ : Unit => True) (fun E (_ : Unit) (_ : State) => False) (fun q : Nat => sz ≤ q)) 1 6 (fun q : Nat => sz ≤ q) := by
  refine vx_ofWH (cc := cL_score) (maxL := 4) (ret := (some .int)) (hh := [(0, 9, 12, 23), (0, 9, 15, 17)]) (by decide) rfl ?_
  intro p e s m args below meth c s₁ B hml hv
  obtain ⟨rfl, hsz, hP, hK, ham⟩ := hv
  have hx := B.exec
  have hb := B.bytes
  have hr := B.returns
  have hts := atoms_spec B.pre
  have hq : ∀ w ∈ tw, w.before _ s = true := fun w h => hts w (List.mem_cons_of_mem _ h)
  have hown : s.vm.findClass RL = some m.cls := findClass_of_methodNamed B.named
  have hlocks := B.notSynchronized
  have htab := vx_table (x := yL_score) B (hq _ q_1126)
  subst hsz
  generalize hAe : (fun q : Nat => s.heap.size ≤ q) = A at ham ⊢
  have hA : ∀ q : Nat, s.heap.size ≤ q → A q := fun q h => by rw [← hAe]; exact h
  have hS : va_S A s.heap s.heap [] := va_S.rf
  have hP : va_P (dC, dI) cls [(h0, .inr (10, [.ref r0, .ref d0, .ref g0, .ref g1, .ref y1, .ref s1, .ref l1, .ref w1])), (r0, .inr (7, [.ref a1, .ref a2, .ref a3, .ref a4, .ref a5, .ref a6, .ref a7, .int 0])), (d0, .inr (2, [.ref b1, .ref b2, .ref b3, .int 0, .int (-1), .int (-1)])), (g0, .inr (4, [.ref f0, .ref n0, .ref y0, .int 0, .int 0, .int 0, .int 45])), (f0, .inr (3, [.ref r0, .ref d0, .ref z1, .ref z2, .ref z3, .ref z4, .ref z5, .int 0, .int 0]))] s.heap := hP
  have hl := lv_entry ([.ref h0, .int p1, .ref u0]) (n := 4) (Nat.le_of_ble_eq_true rfl)
  rw [lg_entry_eq]
  generalize (lg_sl ([.ref h0, .int p1, .ref u0]) ++ List.replicate (4 - (lg_sl ([.ref h0, .int p1, .ref u0])).length) Slot.unset).toArray = ls at hl ⊢
  have hl : lv_has ls 4 [(0, .ref h0), (1, .int p1), (2, .ref u0)] := hl
  refine lv_aload_n hx hb dL_score_0 rfl (lv_at hl 2 rfl) ?_
  refine lv_iconst (v := 0) hx hb dL_score_1 (by decide) ?_
  refine lv_aload_n hx hb dL_score_2 rfl (lv_at hl 0 rfl) ?_
  refine lv_iload_n hx hb dL_score_3 rfl (lv_at hl 1 rfl) ?_
  have hPc := hP.sub (ws' := [(h0, .inr (10, [.ref r0, .ref d0, .ref g0, .ref g1, .ref y1, .ref s1, .ref l1, .ref w1])), (r0, .inr (7, [.ref a1, .ref a2, .ref a3, .ref a4, .ref a5, .ref a6, .ref a7, .int 0])), (d0, .inr (2, [.ref b1, .ref b2, .ref b3, .int 0, .int (-1), .int (-1)])), (g0, .inr (4, [.ref f0, .ref n0, .ref y0, .int 0, .int 0, .int 0, .int 45])), (f0, .inr (3, [.ref r0, .ref d0, .ref z1, .ref z2, .ref z3, .ref z4, .ref z5, .int 0, .int 0]))]) [0, 1, 2, 3, 4] rfl
  have hKc := hK.sub (tys' := []) [] rfl
  refine vx_calli (vx_runV (As := [.int p1]) (rest := [.int 0, .ref u0]) ⟨hx, hb, hml, hown, hq⟩ (c_X_score l hst tE adK adV dC dI h0 r0 d0 g0 g1 y1 s1 l1 w1 a1 a2 a3 a4 a5 a6 a7 b1 b2 b3 f0 n0 y0 z1 z2 z3 z4 z5 p1 s.heap.size) (tcV 1 hq q_1130 q_1 q_1127 q_1128 q_1129 rfl rfl (by decide +kernel) ⟨Nat.le_of_ble_eq_true rfl, Nat.le_of_ble_eq_true rfl⟩) (preR.V (va_recv hK hP (ci := 10) (q0 := 0) rfl rfl) (preR.of hPc hKc ham hS hA)) rfl rfl hl.1 rfl (lv_room (Nat.le_of_ble_eq_true rfl)) dL_score_4 ⟨Nat.le_of_ble_eq_true rfl, Nat.le_of_ble_eq_true rfl⟩) hS (fun q _ h => hA q (Nat.le_trans hS.1 h)) (fun q h => hA q (Nat.le_trans hS.1 h)) (fun q _ h => hA q (Nat.le_trans hS.1 h)) (fun E ce q9 u t H1 locs ht hvm hpx hB hz1 hk1 hS hce hcv hcl => ?_) (fun r_1 u t H1 locs ht hvm hw hB hz1 hk1 hS => ?_)
  · have hE : E = "java/lang/IndexOutOfBoundsException" := hB
    subst hE
    refine vx_catch (own := RL) (name := "java/lang/IndexOutOfBoundsException") hown [] ⟨0, 9, 12, 23⟩ [⟨0, 9, 15, 17⟩] (htab.trans rfl) (fun z hz => by cases hz) (by decide) (by decide) (hq _ q_809) (hq _ q_821) hce hcv hcl ?_
    have hP : va_P (dC, dI) cls [(h0, .inr (10, [.ref r0, .ref d0, .ref g0, .ref g1, .ref y1, .ref s1, .ref l1, .ref w1])), (r0, .inr (7, [.ref a1, .ref a2, .ref a3, .ref a4, .ref a5, .ref a6, .ref a7, .int 0])), (d0, .inr (2, [.ref b1, .ref b2, .ref b3, .int 0, .int (-1), .int (-1)])), (g0, .inr (4, [.ref f0, .ref n0, .ref y0, .int 0, .int 0, .int 0, .int 45])), (f0, .inr (3, [.ref r0, .ref d0, .ref z1, .ref z2, .ref z3, .ref z4, .ref z5, .int 0, .int 0]))] H1 := ro_keep hP hk1
    generalize H1 = H at hP hS ⊢
    refine W.widen (k := 1) (n := 6) (Nat.le_of_ble_eq_true rfl) (Nat.le_of_ble_eq_true rfl) ?_
    refine lv_astore_n (lv' := [(3, .ref q9), (0, .ref h0), (1, .int p1), (2, .ref u0)]) hx hb dL_score_12 rfl hl (by decide) rfl (fun ls hl => ?_)
    refine lv_iconst (v := 1) hx hb dL_score_13 (by decide) ?_
    refine W.widen (k := 1) (n := 6) (Nat.le_of_ble_eq_true rfl) (Nat.le_of_ble_eq_true rfl) ?_
    exact vx_ret (W.iret (v := 1) hx hb hr (fun t ht hW => ⟨⟨1, (), rfl, rfl, trivial⟩, hS.F ht⟩) hS.2.2 dL_score_14)
  · exact (hw : False).elim
abbrev cL_worlds : ByteArray := method_28_code
def yL_worlds : MethodName := ⟨RL, "worlds", "(LNightfallVillage;I[J)I"⟩
theorem q_1135 : (Cond.codeWith yL_worlds cL_worlds 4 (some .int) [(0, 9, 12, 23), (0, 9, 15, 17)]) ∈ tw := tw_in (i := 1135) (by decide +kernel) (by decide +kernel)
theorem dL_worlds_0 : decode cL_worlds 0 = .ok (.aload_n 2, 1) := by decide +kernel
theorem dL_worlds_1 : decode cL_worlds 1 = .ok (.iconst 0, 1) := by decide +kernel
theorem dL_worlds_2 : decode cL_worlds 2 = .ok (.aload_n 0, 1) := by decide +kernel
theorem dL_worlds_3 : decode cL_worlds 3 = .ok (.iload_n 1, 1) := by decide +kernel
theorem dL_worlds_4 : decode cL_worlds 4 = .ok (.invokevirtual 104, 3) := by decide +kernel
theorem q_1139 : (Cond.code yX10_worlds cX10_worlds 2 (some .int)) ∈ tw := tw_in (i := 1139) (by decide +kernel) (by decide +kernel)
theorem q_1136 : (Cond.methodLink "NightfallVillageLaw" 104 yX10_worlds) ∈ tw := tw_in (i := 1136) (by decide +kernel) (by decide +kernel)
theorem q_1137 : (Cond.instanceMethod yX10_worlds) ∈ tw := tw_in (i := 1137) (by decide +kernel) (by decide +kernel)
theorem q_1138 : (Cond.selects "NightfallVillage" yX10_worlds yX10_worlds) ∈ tw := tw_in (i := 1138) (by decide +kernel) (by decide +kernel)
theorem dL_worlds_12 : decode cL_worlds 12 = .ok (.astore_n 3, 1) := by decide +kernel
theorem dL_worlds_13 : decode cL_worlds 13 = .ok (.iconst 1, 1) := by decide +kernel
theorem dL_worlds_14 : decode cL_worlds 14 = .ok (.ireturn, 1) := by decide +kernel
set_option maxHeartbeats 4000000 in
set_option maxRecDepth 100000 in
theorem c_L_worlds (l : Launch) (hst : l.stackTraces = false) (tE : Nat) (adK adV : Nat → Nat) (dC : Nat → ClassId) (dI : Nat → Nat → Nat) (h0 : Nat) (r0 : Nat) (d0 : Nat) (g0 : Nat) (g1 : Nat) (y1 : Nat) (s1 : Nat) (l1 : Nat) (w1 : Nat) (a1 : Nat) (a2 : Nat) (a3 : Nat) (a4 : Nat) (a5 : Nat) (a6 : Nat) (a7 : Nat) (b1 : Nat) (b2 : Nat) (b3 : Nat) (f0 : Nat) (n0 : Nat) (y0 : Nat) (z1 : Nat) (z2 : Nat) (z3 : Nat) (z4 : Nat) (z5 : Nat) (u0 : Nat) (p1 : Int32) (sz : Nat) : vx_Met l yL_worlds (Cond.codeWith yL_worlds cL_worlds 4 (some .int) [(0, 9, 12, 23), (0, 9, 15, 17)] :: tw) ({ frames := 8, cells := 1, slots := 6, locals := 124 }) (va_Pc [.ref h0, .int p1, .ref u0] (preR tE adK adV (dC, dI) [(h0, .inr (10, [.ref r0, .ref d0, .ref g0, .ref g1, .ref y1, .ref s1, .ref l1, .ref w1])), (r0, .inr (7, [.ref a1, .ref a2, .ref a3, .ref a4, .ref a5, .ref a6, .ref a7, .int 0])), (d0, .inr (2, [.ref b1, .ref b2, .ref b3, .int 0, .int (-1), .int (-1)])), (g0, .inr (4, [.ref f0, .ref n0, .ref y0, .int 0, .int 0, .int 0, .int 45])), (f0, .inr (3, [.ref r0, .ref d0, .ref z1, .ref z2, .ref z3, .ref z4, .ref z5, .int 0, .int 0]))] [] sz)) (va_Qi (fun (r : Int32) (_ : Unit) => r = 1) (fun (_ : Unit) (_ : State) => True) (fun q : Nat => sz ≤ q)) (vx_X (fun _ : Unit => True) (fun E (_ : Unit) (_ : State) => False) (fun q : Nat => sz ≤ q)) 1 6 (fun q : Nat => sz ≤ q) := by
  refine vx_ofWH (cc := cL_worlds) (maxL := 4) (ret := (some .int)) (hh := [(0, 9, 12, 23), (0, 9, 15, 17)]) (by decide) rfl ?_
  intro p e s m args below meth c s₁ B hml hv
  obtain ⟨rfl, hsz, hP, hK, ham⟩ := hv
  have hx := B.exec
  have hb := B.bytes
  have hr := B.returns
  have hts := atoms_spec B.pre
  have hq : ∀ w ∈ tw, w.before _ s = true := fun w h => hts w (List.mem_cons_of_mem _ h)
  have hown : s.vm.findClass RL = some m.cls := findClass_of_methodNamed B.named
  have hlocks := B.notSynchronized
  have htab := vx_table (x := yL_worlds) B (hq _ q_1135)
  subst hsz
  generalize hAe : (fun q : Nat => s.heap.size ≤ q) = A at ham ⊢
  have hA : ∀ q : Nat, s.heap.size ≤ q → A q := fun q h => by rw [← hAe]; exact h
  have hS : va_S A s.heap s.heap [] := va_S.rf
  have hP : va_P (dC, dI) cls [(h0, .inr (10, [.ref r0, .ref d0, .ref g0, .ref g1, .ref y1, .ref s1, .ref l1, .ref w1])), (r0, .inr (7, [.ref a1, .ref a2, .ref a3, .ref a4, .ref a5, .ref a6, .ref a7, .int 0])), (d0, .inr (2, [.ref b1, .ref b2, .ref b3, .int 0, .int (-1), .int (-1)])), (g0, .inr (4, [.ref f0, .ref n0, .ref y0, .int 0, .int 0, .int 0, .int 45])), (f0, .inr (3, [.ref r0, .ref d0, .ref z1, .ref z2, .ref z3, .ref z4, .ref z5, .int 0, .int 0]))] s.heap := hP
  have hl := lv_entry ([.ref h0, .int p1, .ref u0]) (n := 4) (Nat.le_of_ble_eq_true rfl)
  rw [lg_entry_eq]
  generalize (lg_sl ([.ref h0, .int p1, .ref u0]) ++ List.replicate (4 - (lg_sl ([.ref h0, .int p1, .ref u0])).length) Slot.unset).toArray = ls at hl ⊢
  have hl : lv_has ls 4 [(0, .ref h0), (1, .int p1), (2, .ref u0)] := hl
  refine lv_aload_n hx hb dL_worlds_0 rfl (lv_at hl 2 rfl) ?_
  refine lv_iconst (v := 0) hx hb dL_worlds_1 (by decide) ?_
  refine lv_aload_n hx hb dL_worlds_2 rfl (lv_at hl 0 rfl) ?_
  refine lv_iload_n hx hb dL_worlds_3 rfl (lv_at hl 1 rfl) ?_
  have hPc := hP.sub (ws' := [(h0, .inr (10, [.ref r0, .ref d0, .ref g0, .ref g1, .ref y1, .ref s1, .ref l1, .ref w1])), (r0, .inr (7, [.ref a1, .ref a2, .ref a3, .ref a4, .ref a5, .ref a6, .ref a7, .int 0])), (d0, .inr (2, [.ref b1, .ref b2, .ref b3, .int 0, .int (-1), .int (-1)])), (g0, .inr (4, [.ref f0, .ref n0, .ref y0, .int 0, .int 0, .int 0, .int 45])), (f0, .inr (3, [.ref r0, .ref d0, .ref z1, .ref z2, .ref z3, .ref z4, .ref z5, .int 0, .int 0]))]) [0, 1, 2, 3, 4] rfl
  have hKc := hK.sub (tys' := []) [] rfl
  refine vx_calli (vx_runV (As := [.int p1]) (rest := [.int 0, .ref u0]) ⟨hx, hb, hml, hown, hq⟩ (c_X_worlds l hst tE adK adV dC dI h0 r0 d0 g0 g1 y1 s1 l1 w1 a1 a2 a3 a4 a5 a6 a7 b1 b2 b3 f0 n0 y0 z1 z2 z3 z4 z5 p1 s.heap.size) (tcV 1 hq q_1139 q_1 q_1136 q_1137 q_1138 rfl rfl (by decide +kernel) ⟨Nat.le_of_ble_eq_true rfl, Nat.le_of_ble_eq_true rfl⟩) (preR.V (va_recv hK hP (ci := 10) (q0 := 0) rfl rfl) (preR.of hPc hKc ham hS hA)) rfl rfl hl.1 rfl (lv_room (Nat.le_of_ble_eq_true rfl)) dL_worlds_4 ⟨Nat.le_of_ble_eq_true rfl, Nat.le_of_ble_eq_true rfl⟩) hS (fun q _ h => hA q (Nat.le_trans hS.1 h)) (fun q h => hA q (Nat.le_trans hS.1 h)) (fun q _ h => hA q (Nat.le_trans hS.1 h)) (fun E ce q9 u t H1 locs ht hvm hpx hB hz1 hk1 hS hce hcv hcl => ?_) (fun r_1 u t H1 locs ht hvm hw hB hz1 hk1 hS => ?_)
  · have hE : E = "java/lang/IndexOutOfBoundsException" := hB
    subst hE
    refine vx_catch (own := RL) (name := "java/lang/IndexOutOfBoundsException") hown [] ⟨0, 9, 12, 23⟩ [⟨0, 9, 15, 17⟩] (htab.trans rfl) (fun z hz => by cases hz) (by decide) (by decide) (hq _ q_809) (hq _ q_821) hce hcv hcl ?_
    have hP : va_P (dC, dI) cls [(h0, .inr (10, [.ref r0, .ref d0, .ref g0, .ref g1, .ref y1, .ref s1, .ref l1, .ref w1])), (r0, .inr (7, [.ref a1, .ref a2, .ref a3, .ref a4, .ref a5, .ref a6, .ref a7, .int 0])), (d0, .inr (2, [.ref b1, .ref b2, .ref b3, .int 0, .int (-1), .int (-1)])), (g0, .inr (4, [.ref f0, .ref n0, .ref y0, .int 0, .int 0, .int 0, .int 45])), (f0, .inr (3, [.ref r0, .ref d0, .ref z1, .ref z2, .ref z3, .ref z4, .ref z5, .int 0, .int 0]))] H1 := ro_keep hP hk1
    generalize H1 = H at hP hS ⊢
    refine W.widen (k := 1) (n := 6) (Nat.le_of_ble_eq_true rfl) (Nat.le_of_ble_eq_true rfl) ?_
    refine lv_astore_n (lv' := [(3, .ref q9), (0, .ref h0), (1, .int p1), (2, .ref u0)]) hx hb dL_worlds_12 rfl hl (by decide) rfl (fun ls hl => ?_)
    refine lv_iconst (v := 1) hx hb dL_worlds_13 (by decide) ?_
    refine W.widen (k := 1) (n := 6) (Nat.le_of_ble_eq_true rfl) (Nat.le_of_ble_eq_true rfl) ?_
    exact vx_ret (W.iret (v := 1) hx hb hr (fun t ht hW => ⟨⟨1, (), rfl, rfl, trivial⟩, hS.F ht⟩) hS.2.2 dL_worlds_14)
  · exact (hw : False).elim
abbrev cL_possible : ByteArray := method_29_code
def yL_possible : MethodName := ⟨RL, "possible", "(LNightfallVillage;III[J)I"⟩
theorem q_1156 : (Cond.codeWith yL_possible cL_possible 6 (some .int) [(0, 12, 15, 23), (0, 12, 19, 17)]) ∈ tw := tw_in (i := 1156) (by decide +kernel) (by decide +kernel)
theorem dL_possible_0 : decode cL_possible 0 = .ok (.aload 4, 2) := by decide +kernel
theorem dL_possible_2 : decode cL_possible 2 = .ok (.iconst 0, 1) := by decide +kernel
theorem dL_possible_3 : decode cL_possible 3 = .ok (.aload_n 0, 1) := by decide +kernel
theorem dL_possible_4 : decode cL_possible 4 = .ok (.iload_n 1, 1) := by decide +kernel
theorem dL_possible_5 : decode cL_possible 5 = .ok (.iload_n 2, 1) := by decide +kernel
theorem dL_possible_6 : decode cL_possible 6 = .ok (.iload_n 3, 1) := by decide +kernel
theorem dL_possible_7 : decode cL_possible 7 = .ok (.invokevirtual 107, 3) := by decide +kernel
theorem q_1160 : (Cond.code yX10_possible cX10_possible 4 (some .int)) ∈ tw := tw_in (i := 1160) (by decide +kernel) (by decide +kernel)
theorem q_1157 : (Cond.methodLink "NightfallVillageLaw" 107 yX10_possible) ∈ tw := tw_in (i := 1157) (by decide +kernel) (by decide +kernel)
theorem q_1158 : (Cond.instanceMethod yX10_possible) ∈ tw := tw_in (i := 1158) (by decide +kernel) (by decide +kernel)
theorem q_1159 : (Cond.selects "NightfallVillage" yX10_possible yX10_possible) ∈ tw := tw_in (i := 1159) (by decide +kernel) (by decide +kernel)
theorem dL_possible_15 : decode cL_possible 15 = .ok (.astore 5, 2) := by decide +kernel
theorem dL_possible_17 : decode cL_possible 17 = .ok (.iconst 1, 1) := by decide +kernel
theorem dL_possible_18 : decode cL_possible 18 = .ok (.ireturn, 1) := by decide +kernel
set_option maxHeartbeats 4000000 in
set_option maxRecDepth 100000 in
theorem c_L_possible (l : Launch) (hst : l.stackTraces = false) (tE : Nat) (adK adV : Nat → Nat) (dC : Nat → ClassId) (dI : Nat → Nat → Nat) (h0 : Nat) (r0 : Nat) (d0 : Nat) (g0 : Nat) (g1 : Nat) (y1 : Nat) (s1 : Nat) (l1 : Nat) (w1 : Nat) (a1 : Nat) (a2 : Nat) (a3 : Nat) (a4 : Nat) (a5 : Nat) (a6 : Nat) (a7 : Nat) (b1 : Nat) (b2 : Nat) (b3 : Nat) (f0 : Nat) (n0 : Nat) (y0 : Nat) (z1 : Nat) (z2 : Nat) (z3 : Nat) (z4 : Nat) (z5 : Nat) (u0 : Nat) (p1 : Int32) (p2 : Int32) (p3 : Int32) (sz : Nat) : vx_Met l yL_possible (Cond.codeWith yL_possible cL_possible 6 (some .int) [(0, 12, 15, 23), (0, 12, 19, 17)] :: tw) ({ frames := 8, cells := 1, slots := 6, locals := 126 }) (va_Pc [.ref h0, .int p1, .int p2, .int p3, .ref u0] (preR tE adK adV (dC, dI) [(h0, .inr (10, [.ref r0, .ref d0, .ref g0, .ref g1, .ref y1, .ref s1, .ref l1, .ref w1])), (r0, .inr (7, [.ref a1, .ref a2, .ref a3, .ref a4, .ref a5, .ref a6, .ref a7, .int 0])), (d0, .inr (2, [.ref b1, .ref b2, .ref b3, .int 0, .int (-1), .int (-1)])), (g0, .inr (4, [.ref f0, .ref n0, .ref y0, .int 0, .int 0, .int 0, .int 45])), (f0, .inr (3, [.ref r0, .ref d0, .ref z1, .ref z2, .ref z3, .ref z4, .ref z5, .int 0, .int 0]))] [] sz)) (va_Qi (fun (r : Int32) (_ : Unit) => r = 1) (fun (_ : Unit) (_ : State) => True) (fun q : Nat => sz ≤ q)) (vx_X (fun _ : Unit => True) (fun E (_ : Unit) (_ : State) => False) (fun q : Nat => sz ≤ q)) 1 6 (fun q : Nat => sz ≤ q) := by
  refine vx_ofWH (cc := cL_possible) (maxL := 6) (ret := (some .int)) (hh := [(0, 12, 15, 23), (0, 12, 19, 17)]) (by decide) rfl ?_
  intro p e s m args below meth c s₁ B hml hv
  obtain ⟨rfl, hsz, hP, hK, ham⟩ := hv
  have hx := B.exec
  have hb := B.bytes
  have hr := B.returns
  have hts := atoms_spec B.pre
  have hq : ∀ w ∈ tw, w.before _ s = true := fun w h => hts w (List.mem_cons_of_mem _ h)
  have hown : s.vm.findClass RL = some m.cls := findClass_of_methodNamed B.named
  have hlocks := B.notSynchronized
  have htab := vx_table (x := yL_possible) B (hq _ q_1156)
  subst hsz
  generalize hAe : (fun q : Nat => s.heap.size ≤ q) = A at ham ⊢
  have hA : ∀ q : Nat, s.heap.size ≤ q → A q := fun q h => by rw [← hAe]; exact h
  have hS : va_S A s.heap s.heap [] := va_S.rf
  have hP : va_P (dC, dI) cls [(h0, .inr (10, [.ref r0, .ref d0, .ref g0, .ref g1, .ref y1, .ref s1, .ref l1, .ref w1])), (r0, .inr (7, [.ref a1, .ref a2, .ref a3, .ref a4, .ref a5, .ref a6, .ref a7, .int 0])), (d0, .inr (2, [.ref b1, .ref b2, .ref b3, .int 0, .int (-1), .int (-1)])), (g0, .inr (4, [.ref f0, .ref n0, .ref y0, .int 0, .int 0, .int 0, .int 45])), (f0, .inr (3, [.ref r0, .ref d0, .ref z1, .ref z2, .ref z3, .ref z4, .ref z5, .int 0, .int 0]))] s.heap := hP
  have hl := lv_entry ([.ref h0, .int p1, .int p2, .int p3, .ref u0]) (n := 6) (Nat.le_of_ble_eq_true rfl)
  rw [lg_entry_eq]
  generalize (lg_sl ([.ref h0, .int p1, .int p2, .int p3, .ref u0]) ++ List.replicate (6 - (lg_sl ([.ref h0, .int p1, .int p2, .int p3, .ref u0])).length) Slot.unset).toArray = ls at hl ⊢
  have hl : lv_has ls 6 [(0, .ref h0), (1, .int p1), (2, .int p2), (3, .int p3), (4, .ref u0)] := hl
  refine lv_aload hx hb dL_possible_0 (lv_at hl 4 rfl) ?_
  refine lv_iconst (v := 0) hx hb dL_possible_2 (by decide) ?_
  refine lv_aload_n hx hb dL_possible_3 rfl (lv_at hl 0 rfl) ?_
  refine lv_iload_n hx hb dL_possible_4 rfl (lv_at hl 1 rfl) ?_
  refine lv_iload_n hx hb dL_possible_5 rfl (lv_at hl 2 rfl) ?_
  refine lv_iload_n hx hb dL_possible_6 rfl (lv_at hl 3 rfl) ?_
  have hPc := hP.sub (ws' := [(h0, .inr (10, [.ref r0, .ref d0, .ref g0, .ref g1, .ref y1, .ref s1, .ref l1, .ref w1])), (r0, .inr (7, [.ref a1, .ref a2, .ref a3, .ref a4, .ref a5, .ref a6, .ref a7, .int 0])), (d0, .inr (2, [.ref b1, .ref b2, .ref b3, .int 0, .int (-1), .int (-1)])), (g0, .inr (4, [.ref f0, .ref n0, .ref y0, .int 0, .int 0, .int 0, .int 45])), (f0, .inr (3, [.ref r0, .ref d0, .ref z1, .ref z2, .ref z3, .ref z4, .ref z5, .int 0, .int 0]))]) [0, 1, 2, 3, 4] rfl
  have hKc := hK.sub (tys' := []) [] rfl
  refine vx_calli (vx_runV (As := [.int p1, .int p2, .int p3]) (rest := [.int 0, .ref u0]) ⟨hx, hb, hml, hown, hq⟩ (c_X_possible l hst tE adK adV dC dI h0 r0 d0 g0 g1 y1 s1 l1 w1 a1 a2 a3 a4 a5 a6 a7 b1 b2 b3 f0 n0 y0 z1 z2 z3 z4 z5 p1 p2 p3 s.heap.size) (tcV 3 hq q_1160 q_1 q_1157 q_1158 q_1159 rfl rfl (by decide +kernel) ⟨Nat.le_of_ble_eq_true rfl, Nat.le_of_ble_eq_true rfl⟩) (preR.V (va_recv hK hP (ci := 10) (q0 := 0) rfl rfl) (preR.of hPc hKc ham hS hA)) rfl rfl hl.1 rfl (lv_room (Nat.le_of_ble_eq_true rfl)) dL_possible_7 ⟨Nat.le_of_ble_eq_true rfl, Nat.le_of_ble_eq_true rfl⟩) hS (fun q _ h => hA q (Nat.le_trans hS.1 h)) (fun q h => hA q (Nat.le_trans hS.1 h)) (fun q _ h => hA q (Nat.le_trans hS.1 h)) (fun E ce q9 u t H1 locs ht hvm hpx hB hz1 hk1 hS hce hcv hcl => ?_) (fun r_1 u t H1 locs ht hvm hw hB hz1 hk1 hS => ?_)
  · have hE : E = "java/lang/IndexOutOfBoundsException" := hB
    subst hE
    refine vx_catch (own := RL) (name := "java/lang/IndexOutOfBoundsException") hown [] ⟨0, 12, 15, 23⟩ [⟨0, 12, 19, 17⟩] (htab.trans rfl) (fun z hz => by cases hz) (by decide) (by decide) (hq _ q_809) (hq _ q_821) hce hcv hcl ?_
    have hP : va_P (dC, dI) cls [(h0, .inr (10, [.ref r0, .ref d0, .ref g0, .ref g1, .ref y1, .ref s1, .ref l1, .ref w1])), (r0, .inr (7, [.ref a1, .ref a2, .ref a3, .ref a4, .ref a5, .ref a6, .ref a7, .int 0])), (d0, .inr (2, [.ref b1, .ref b2, .ref b3, .int 0, .int (-1), .int (-1)])), (g0, .inr (4, [.ref f0, .ref n0, .ref y0, .int 0, .int 0, .int 0, .int 45])), (f0, .inr (3, [.ref r0, .ref d0, .ref z1, .ref z2, .ref z3, .ref z4, .ref z5, .int 0, .int 0]))] H1 := ro_keep hP hk1
    generalize H1 = H at hP hS ⊢
    refine W.widen (k := 1) (n := 6) (Nat.le_of_ble_eq_true rfl) (Nat.le_of_ble_eq_true rfl) ?_
    refine lv_astore (lv' := [(5, .ref q9), (0, .ref h0), (1, .int p1), (2, .int p2), (3, .int p3), (4, .ref u0)]) hx hb dL_possible_15 hl (by decide) rfl (fun ls hl => ?_)
    refine lv_iconst (v := 1) hx hb dL_possible_17 (by decide) ?_
    refine W.widen (k := 1) (n := 6) (Nat.le_of_ble_eq_true rfl) (Nat.le_of_ble_eq_true rfl) ?_
    exact vx_ret (W.iret (v := 1) hx hb hr (fun t ht hW => ⟨⟨1, (), rfl, rfl, trivial⟩, hS.F ht⟩) hS.2.2 dL_possible_18)
  · exact (hw : False).elim
abbrev cL_sure : ByteArray := method_30_code
def yL_sure : MethodName := ⟨RL, "sure", "(LNightfallVillage;II[J)I"⟩
theorem q_1168 : (Cond.codeWith yL_sure cL_sure 5 (some .int) [(0, 10, 13, 23), (0, 10, 17, 17)]) ∈ tw := tw_in (i := 1168) (by decide +kernel) (by decide +kernel)
theorem dL_sure_0 : decode cL_sure 0 = .ok (.aload_n 3, 1) := by decide +kernel
theorem dL_sure_1 : decode cL_sure 1 = .ok (.iconst 0, 1) := by decide +kernel
theorem dL_sure_2 : decode cL_sure 2 = .ok (.aload_n 0, 1) := by decide +kernel
theorem dL_sure_3 : decode cL_sure 3 = .ok (.iload_n 1, 1) := by decide +kernel
theorem dL_sure_4 : decode cL_sure 4 = .ok (.iload_n 2, 1) := by decide +kernel
theorem dL_sure_5 : decode cL_sure 5 = .ok (.invokevirtual 111, 3) := by decide +kernel
theorem q_1172 : (Cond.code yX10_sure cX10_sure 3 (some .char)) ∈ tw := tw_in (i := 1172) (by decide +kernel) (by decide +kernel)
theorem q_1169 : (Cond.methodLink "NightfallVillageLaw" 111 yX10_sure) ∈ tw := tw_in (i := 1169) (by decide +kernel) (by decide +kernel)
theorem q_1170 : (Cond.instanceMethod yX10_sure) ∈ tw := tw_in (i := 1170) (by decide +kernel) (by decide +kernel)
theorem q_1171 : (Cond.selects "NightfallVillage" yX10_sure yX10_sure) ∈ tw := tw_in (i := 1171) (by decide +kernel) (by decide +kernel)
theorem dL_sure_13 : decode cL_sure 13 = .ok (.astore 4, 2) := by decide +kernel
theorem dL_sure_15 : decode cL_sure 15 = .ok (.iconst 1, 1) := by decide +kernel
theorem dL_sure_16 : decode cL_sure 16 = .ok (.ireturn, 1) := by decide +kernel
set_option maxHeartbeats 4000000 in
set_option maxRecDepth 100000 in
theorem c_L_sure (l : Launch) (hst : l.stackTraces = false) (tE : Nat) (adK adV : Nat → Nat) (dC : Nat → ClassId) (dI : Nat → Nat → Nat) (h0 : Nat) (r0 : Nat) (d0 : Nat) (g0 : Nat) (g1 : Nat) (y1 : Nat) (s1 : Nat) (l1 : Nat) (w1 : Nat) (a1 : Nat) (a2 : Nat) (a3 : Nat) (a4 : Nat) (a5 : Nat) (a6 : Nat) (a7 : Nat) (b1 : Nat) (b2 : Nat) (b3 : Nat) (f0 : Nat) (n0 : Nat) (y0 : Nat) (z1 : Nat) (z2 : Nat) (z3 : Nat) (z4 : Nat) (z5 : Nat) (u0 : Nat) (p1 : Int32) (p2 : Int32) (sz : Nat) : vx_Met l yL_sure (Cond.codeWith yL_sure cL_sure 5 (some .int) [(0, 10, 13, 23), (0, 10, 17, 17)] :: tw) ({ frames := 8, cells := 1, slots := 6, locals := 125 }) (va_Pc [.ref h0, .int p1, .int p2, .ref u0] (preR tE adK adV (dC, dI) [(h0, .inr (10, [.ref r0, .ref d0, .ref g0, .ref g1, .ref y1, .ref s1, .ref l1, .ref w1])), (r0, .inr (7, [.ref a1, .ref a2, .ref a3, .ref a4, .ref a5, .ref a6, .ref a7, .int 0])), (d0, .inr (2, [.ref b1, .ref b2, .ref b3, .int 0, .int (-1), .int (-1)])), (g0, .inr (4, [.ref f0, .ref n0, .ref y0, .int 0, .int 0, .int 0, .int 45])), (f0, .inr (3, [.ref r0, .ref d0, .ref z1, .ref z2, .ref z3, .ref z4, .ref z5, .int 0, .int 0]))] [] sz)) (va_Qi (fun (r : Int32) (_ : Unit) => r = 1) (fun (_ : Unit) (_ : State) => True) (fun q : Nat => sz ≤ q)) (vx_X (fun _ : Unit => True) (fun E (_ : Unit) (_ : State) => False) (fun q : Nat => sz ≤ q)) 1 6 (fun q : Nat => sz ≤ q) := by
  refine vx_ofWH (cc := cL_sure) (maxL := 5) (ret := (some .int)) (hh := [(0, 10, 13, 23), (0, 10, 17, 17)]) (by decide) rfl ?_
  intro p e s m args below meth c s₁ B hml hv
  obtain ⟨rfl, hsz, hP, hK, ham⟩ := hv
  have hx := B.exec
  have hb := B.bytes
  have hr := B.returns
  have hts := atoms_spec B.pre
  have hq : ∀ w ∈ tw, w.before _ s = true := fun w h => hts w (List.mem_cons_of_mem _ h)
  have hown : s.vm.findClass RL = some m.cls := findClass_of_methodNamed B.named
  have hlocks := B.notSynchronized
  have htab := vx_table (x := yL_sure) B (hq _ q_1168)
  subst hsz
  generalize hAe : (fun q : Nat => s.heap.size ≤ q) = A at ham ⊢
  have hA : ∀ q : Nat, s.heap.size ≤ q → A q := fun q h => by rw [← hAe]; exact h
  have hS : va_S A s.heap s.heap [] := va_S.rf
  have hP : va_P (dC, dI) cls [(h0, .inr (10, [.ref r0, .ref d0, .ref g0, .ref g1, .ref y1, .ref s1, .ref l1, .ref w1])), (r0, .inr (7, [.ref a1, .ref a2, .ref a3, .ref a4, .ref a5, .ref a6, .ref a7, .int 0])), (d0, .inr (2, [.ref b1, .ref b2, .ref b3, .int 0, .int (-1), .int (-1)])), (g0, .inr (4, [.ref f0, .ref n0, .ref y0, .int 0, .int 0, .int 0, .int 45])), (f0, .inr (3, [.ref r0, .ref d0, .ref z1, .ref z2, .ref z3, .ref z4, .ref z5, .int 0, .int 0]))] s.heap := hP
  have hl := lv_entry ([.ref h0, .int p1, .int p2, .ref u0]) (n := 5) (Nat.le_of_ble_eq_true rfl)
  rw [lg_entry_eq]
  generalize (lg_sl ([.ref h0, .int p1, .int p2, .ref u0]) ++ List.replicate (5 - (lg_sl ([.ref h0, .int p1, .int p2, .ref u0])).length) Slot.unset).toArray = ls at hl ⊢
  have hl : lv_has ls 5 [(0, .ref h0), (1, .int p1), (2, .int p2), (3, .ref u0)] := hl
  refine lv_aload_n hx hb dL_sure_0 rfl (lv_at hl 3 rfl) ?_
  refine lv_iconst (v := 0) hx hb dL_sure_1 (by decide) ?_
  refine lv_aload_n hx hb dL_sure_2 rfl (lv_at hl 0 rfl) ?_
  refine lv_iload_n hx hb dL_sure_3 rfl (lv_at hl 1 rfl) ?_
  refine lv_iload_n hx hb dL_sure_4 rfl (lv_at hl 2 rfl) ?_
  have hPc := hP.sub (ws' := [(h0, .inr (10, [.ref r0, .ref d0, .ref g0, .ref g1, .ref y1, .ref s1, .ref l1, .ref w1])), (r0, .inr (7, [.ref a1, .ref a2, .ref a3, .ref a4, .ref a5, .ref a6, .ref a7, .int 0])), (d0, .inr (2, [.ref b1, .ref b2, .ref b3, .int 0, .int (-1), .int (-1)])), (g0, .inr (4, [.ref f0, .ref n0, .ref y0, .int 0, .int 0, .int 0, .int 45])), (f0, .inr (3, [.ref r0, .ref d0, .ref z1, .ref z2, .ref z3, .ref z4, .ref z5, .int 0, .int 0]))]) [0, 1, 2, 3, 4] rfl
  have hKc := hK.sub (tys' := []) [] rfl
  refine vx_calli (vx_runV (As := [.int p1, .int p2]) (rest := [.int 0, .ref u0]) ⟨hx, hb, hml, hown, hq⟩ (c_X_sure l hst tE adK adV dC dI h0 r0 d0 g0 g1 y1 s1 l1 w1 a1 a2 a3 a4 a5 a6 a7 b1 b2 b3 f0 n0 y0 z1 z2 z3 z4 z5 p1 p2 s.heap.size) (tcV 2 hq q_1172 q_1 q_1169 q_1170 q_1171 rfl rfl (by decide +kernel) ⟨Nat.le_of_ble_eq_true rfl, Nat.le_of_ble_eq_true rfl⟩) (preR.V (va_recv hK hP (ci := 10) (q0 := 0) rfl rfl) (preR.of hPc hKc ham hS hA)) rfl rfl hl.1 rfl (lv_room (Nat.le_of_ble_eq_true rfl)) dL_sure_5 ⟨Nat.le_of_ble_eq_true rfl, Nat.le_of_ble_eq_true rfl⟩) hS (fun q _ h => hA q (Nat.le_trans hS.1 h)) (fun q h => hA q (Nat.le_trans hS.1 h)) (fun q _ h => hA q (Nat.le_trans hS.1 h)) (fun E ce q9 u t H1 locs ht hvm hpx hB hz1 hk1 hS hce hcv hcl => ?_) (fun r_1 u t H1 locs ht hvm hw hB hz1 hk1 hS => ?_)
  · have hE : E = "java/lang/IndexOutOfBoundsException" := hB
    subst hE
    refine vx_catch (own := RL) (name := "java/lang/IndexOutOfBoundsException") hown [] ⟨0, 10, 13, 23⟩ [⟨0, 10, 17, 17⟩] (htab.trans rfl) (fun z hz => by cases hz) (by decide) (by decide) (hq _ q_809) (hq _ q_821) hce hcv hcl ?_
    have hP : va_P (dC, dI) cls [(h0, .inr (10, [.ref r0, .ref d0, .ref g0, .ref g1, .ref y1, .ref s1, .ref l1, .ref w1])), (r0, .inr (7, [.ref a1, .ref a2, .ref a3, .ref a4, .ref a5, .ref a6, .ref a7, .int 0])), (d0, .inr (2, [.ref b1, .ref b2, .ref b3, .int 0, .int (-1), .int (-1)])), (g0, .inr (4, [.ref f0, .ref n0, .ref y0, .int 0, .int 0, .int 0, .int 45])), (f0, .inr (3, [.ref r0, .ref d0, .ref z1, .ref z2, .ref z3, .ref z4, .ref z5, .int 0, .int 0]))] H1 := ro_keep hP hk1
    generalize H1 = H at hP hS ⊢
    refine W.widen (k := 1) (n := 6) (Nat.le_of_ble_eq_true rfl) (Nat.le_of_ble_eq_true rfl) ?_
    refine lv_astore (lv' := [(4, .ref q9), (0, .ref h0), (1, .int p1), (2, .int p2), (3, .ref u0)]) hx hb dL_sure_13 hl (by decide) rfl (fun ls hl => ?_)
    refine lv_iconst (v := 1) hx hb dL_sure_15 (by decide) ?_
    refine W.widen (k := 1) (n := 6) (Nat.le_of_ble_eq_true rfl) (Nat.le_of_ble_eq_true rfl) ?_
    exact vx_ret (W.iret (v := 1) hx hb hr (fun t ht hW => ⟨⟨1, (), rfl, rfl, trivial⟩, hS.F ht⟩) hS.2.2 dL_sure_16)
  · exact (hw : False).elim
abbrev cL_known : ByteArray := method_31_code
def yL_known : MethodName := ⟨RL, "known", "(LNightfallVillage;[J)I"⟩
theorem q_1184 : (Cond.codeWith yL_known cL_known 3 (some .int) [(0, 8, 11, 17)]) ∈ tw := tw_in (i := 1184) (by decide +kernel) (by decide +kernel)
theorem dL_known_0 : decode cL_known 0 = .ok (.aload_n 1, 1) := by decide +kernel
theorem dL_known_1 : decode cL_known 1 = .ok (.iconst 0, 1) := by decide +kernel
theorem dL_known_2 : decode cL_known 2 = .ok (.aload_n 0, 1) := by decide +kernel
theorem dL_known_3 : decode cL_known 3 = .ok (.invokevirtual 114, 3) := by decide +kernel
theorem q_1188 : (Cond.code yX10_known cX10_known 1 (some .int)) ∈ tw := tw_in (i := 1188) (by decide +kernel) (by decide +kernel)
theorem q_1185 : (Cond.methodLink "NightfallVillageLaw" 114 yX10_known) ∈ tw := tw_in (i := 1185) (by decide +kernel) (by decide +kernel)
theorem q_1186 : (Cond.instanceMethod yX10_known) ∈ tw := tw_in (i := 1186) (by decide +kernel) (by decide +kernel)
theorem q_1187 : (Cond.selects "NightfallVillage" yX10_known yX10_known) ∈ tw := tw_in (i := 1187) (by decide +kernel) (by decide +kernel)
theorem dL_known_11 : decode cL_known 11 = .ok (.astore_n 2, 1) := by decide +kernel
theorem dL_known_12 : decode cL_known 12 = .ok (.iconst 1, 1) := by decide +kernel
theorem dL_known_13 : decode cL_known 13 = .ok (.ireturn, 1) := by decide +kernel
set_option maxHeartbeats 4000000 in
set_option maxRecDepth 100000 in
theorem c_L_known (l : Launch) (hst : l.stackTraces = false) (tE : Nat) (adK adV : Nat → Nat) (dC : Nat → ClassId) (dI : Nat → Nat → Nat) (h0 : Nat) (r0 : Nat) (d0 : Nat) (g0 : Nat) (g1 : Nat) (y1 : Nat) (s1 : Nat) (l1 : Nat) (w1 : Nat) (a1 : Nat) (a2 : Nat) (a3 : Nat) (a4 : Nat) (a5 : Nat) (a6 : Nat) (a7 : Nat) (b1 : Nat) (b2 : Nat) (b3 : Nat) (f0 : Nat) (n0 : Nat) (y0 : Nat) (z1 : Nat) (z2 : Nat) (z3 : Nat) (z4 : Nat) (z5 : Nat) (u0 : Nat) (sz : Nat) : vx_Met l yL_known (Cond.codeWith yL_known cL_known 3 (some .int) [(0, 8, 11, 17)] :: tw) ({ frames := 8, cells := 1, slots := 6, locals := 122 }) (va_Pc [.ref h0, .ref u0] (preR tE adK adV (dC, dI) [(h0, .inr (10, [.ref r0, .ref d0, .ref g0, .ref g1, .ref y1, .ref s1, .ref l1, .ref w1])), (r0, .inr (7, [.ref a1, .ref a2, .ref a3, .ref a4, .ref a5, .ref a6, .ref a7, .int 0])), (d0, .inr (2, [.ref b1, .ref b2, .ref b3, .int 0, .int (-1), .int (-1)])), (g0, .inr (4, [.ref f0, .ref n0, .ref y0, .int 0, .int 0, .int 0, .int 45])), (f0, .inr (3, [.ref r0, .ref d0, .ref z1, .ref z2, .ref z3, .ref z4, .ref z5, .int 0, .int 0]))] [] sz)) (va_Qi (fun (r : Int32) (_ : Unit) => r = 1) (fun (_ : Unit) (_ : State) => True) (fun q : Nat => sz ≤ q)) (vx_X (fun _ : Unit => True) (fun E (_ : Unit) (_ : State) => False) (fun q : Nat => sz ≤ q)) 1 6 (fun q : Nat => sz ≤ q) := by
  refine vx_ofWH (cc := cL_known) (maxL := 3) (ret := (some .int)) (hh := [(0, 8, 11, 17)]) (by decide) rfl ?_
  intro p e s m args below meth c s₁ B hml hv
  obtain ⟨rfl, hsz, hP, hK, ham⟩ := hv
  have hx := B.exec
  have hb := B.bytes
  have hr := B.returns
  have hts := atoms_spec B.pre
  have hq : ∀ w ∈ tw, w.before _ s = true := fun w h => hts w (List.mem_cons_of_mem _ h)
  have hown : s.vm.findClass RL = some m.cls := findClass_of_methodNamed B.named
  have hlocks := B.notSynchronized
  have htab := vx_table (x := yL_known) B (hq _ q_1184)
  subst hsz
  generalize hAe : (fun q : Nat => s.heap.size ≤ q) = A at ham ⊢
  have hA : ∀ q : Nat, s.heap.size ≤ q → A q := fun q h => by rw [← hAe]; exact h
  have hS : va_S A s.heap s.heap [] := va_S.rf
  have hP : va_P (dC, dI) cls [(h0, .inr (10, [.ref r0, .ref d0, .ref g0, .ref g1, .ref y1, .ref s1, .ref l1, .ref w1])), (r0, .inr (7, [.ref a1, .ref a2, .ref a3, .ref a4, .ref a5, .ref a6, .ref a7, .int 0])), (d0, .inr (2, [.ref b1, .ref b2, .ref b3, .int 0, .int (-1), .int (-1)])), (g0, .inr (4, [.ref f0, .ref n0, .ref y0, .int 0, .int 0, .int 0, .int 45])), (f0, .inr (3, [.ref r0, .ref d0, .ref z1, .ref z2, .ref z3, .ref z4, .ref z5, .int 0, .int 0]))] s.heap := hP
  have hl := lv_entry ([.ref h0, .ref u0]) (n := 3) (Nat.le_of_ble_eq_true rfl)
  rw [lg_entry_eq]
  generalize (lg_sl ([.ref h0, .ref u0]) ++ List.replicate (3 - (lg_sl ([.ref h0, .ref u0])).length) Slot.unset).toArray = ls at hl ⊢
  have hl : lv_has ls 3 [(0, .ref h0), (1, .ref u0)] := hl
  refine lv_aload_n hx hb dL_known_0 rfl (lv_at hl 1 rfl) ?_
  refine lv_iconst (v := 0) hx hb dL_known_1 (by decide) ?_
  refine lv_aload_n hx hb dL_known_2 rfl (lv_at hl 0 rfl) ?_
  have hPc := hP.sub (ws' := [(h0, .inr (10, [.ref r0, .ref d0, .ref g0, .ref g1, .ref y1, .ref s1, .ref l1, .ref w1])), (r0, .inr (7, [.ref a1, .ref a2, .ref a3, .ref a4, .ref a5, .ref a6, .ref a7, .int 0])), (d0, .inr (2, [.ref b1, .ref b2, .ref b3, .int 0, .int (-1), .int (-1)])), (g0, .inr (4, [.ref f0, .ref n0, .ref y0, .int 0, .int 0, .int 0, .int 45])), (f0, .inr (3, [.ref r0, .ref d0, .ref z1, .ref z2, .ref z3, .ref z4, .ref z5, .int 0, .int 0]))]) [0, 1, 2, 3, 4] rfl
  have hKc := hK.sub (tys' := []) [] rfl
  refine vx_calli (vx_runV (As := []) (rest := [.int 0, .ref u0]) ⟨hx, hb, hml, hown, hq⟩ (c_X_known l hst tE adK adV dC dI h0 r0 d0 g0 g1 y1 s1 l1 w1 a1 a2 a3 a4 a5 a6 a7 b1 b2 b3 f0 n0 y0 z1 z2 z3 z4 z5 s.heap.size) (tcV 0 hq q_1188 q_1 q_1185 q_1186 q_1187 rfl rfl (by decide +kernel) ⟨Nat.le_of_ble_eq_true rfl, Nat.le_of_ble_eq_true rfl⟩) (preR.V (va_recv hK hP (ci := 10) (q0 := 0) rfl rfl) (preR.of hPc hKc ham hS hA)) rfl rfl hl.1 rfl (lv_room (Nat.le_of_ble_eq_true rfl)) dL_known_3 ⟨Nat.le_of_ble_eq_true rfl, Nat.le_of_ble_eq_true rfl⟩) hS (fun q _ h => hA q (Nat.le_trans hS.1 h)) (fun q h => hA q (Nat.le_trans hS.1 h)) (fun q _ h => hA q (Nat.le_trans hS.1 h)) (fun E ce q9 u t H1 locs ht hvm hpx hB hz1 hk1 hS hce hcv hcl => ?_) (fun r_1 u t H1 locs ht hvm hw hB hz1 hk1 hS => ?_)
  · have hE : E = "java/lang/IllegalStateException" := hB
    subst hE
    refine vx_catch (own := RL) (name := "java/lang/IllegalStateException") hown [] ⟨0, 8, 11, 17⟩ [] (htab.trans rfl) (fun z hz => by cases hz) (by decide) (by decide) (hq _ q_685) (hq _ q_788) hce hcv hcl ?_
    have hP : va_P (dC, dI) cls [(h0, .inr (10, [.ref r0, .ref d0, .ref g0, .ref g1, .ref y1, .ref s1, .ref l1, .ref w1])), (r0, .inr (7, [.ref a1, .ref a2, .ref a3, .ref a4, .ref a5, .ref a6, .ref a7, .int 0])), (d0, .inr (2, [.ref b1, .ref b2, .ref b3, .int 0, .int (-1), .int (-1)])), (g0, .inr (4, [.ref f0, .ref n0, .ref y0, .int 0, .int 0, .int 0, .int 45])), (f0, .inr (3, [.ref r0, .ref d0, .ref z1, .ref z2, .ref z3, .ref z4, .ref z5, .int 0, .int 0]))] H1 := ro_keep hP hk1
    generalize H1 = H at hP hS ⊢
    refine W.widen (k := 1) (n := 6) (Nat.le_of_ble_eq_true rfl) (Nat.le_of_ble_eq_true rfl) ?_
    refine lv_astore_n (lv' := [(2, .ref q9), (0, .ref h0), (1, .ref u0)]) hx hb dL_known_11 rfl hl (by decide) rfl (fun ls hl => ?_)
    refine lv_iconst (v := 1) hx hb dL_known_12 (by decide) ?_
    refine W.widen (k := 1) (n := 6) (Nat.le_of_ble_eq_true rfl) (Nat.le_of_ble_eq_true rfl) ?_
    exact vx_ret (W.iret (v := 1) hx hb hr (fun t ht hW => ⟨⟨1, (), rfl, rfl, trivial⟩, hS.F ht⟩) hS.2.2 dL_known_13)
  · exact (hw : False).elim
abbrev cL_claim : ByteArray := method_32_code
def yL_claim : MethodName := ⟨RL, "claim", "(LNightfallVillage;IIC[J)I"⟩
theorem q_1191 : (Cond.codeWith yL_claim cL_claim 6 (some .int) [(0, 12, 15, 23), (0, 12, 19, 13), (0, 12, 23, 17), (0, 12, 27, 15)]) ∈ tw := tw_in (i := 1191) (by decide +kernel) (by decide +kernel)
theorem dL_claim_0 : decode cL_claim 0 = .ok (.aload 4, 2) := by decide +kernel
theorem dL_claim_2 : decode cL_claim 2 = .ok (.iconst 0, 1) := by decide +kernel
theorem dL_claim_3 : decode cL_claim 3 = .ok (.aload_n 0, 1) := by decide +kernel
theorem dL_claim_4 : decode cL_claim 4 = .ok (.iload_n 1, 1) := by decide +kernel
theorem dL_claim_5 : decode cL_claim 5 = .ok (.iload_n 2, 1) := by decide +kernel
theorem dL_claim_6 : decode cL_claim 6 = .ok (.iload_n 3, 1) := by decide +kernel
theorem dL_claim_7 : decode cL_claim 7 = .ok (.invokevirtual 117, 3) := by decide +kernel
theorem q_1195 : (Cond.code yX10_claim cX10_claim 4 (some .int)) ∈ tw := tw_in (i := 1195) (by decide +kernel) (by decide +kernel)
theorem q_1192 : (Cond.methodLink "NightfallVillageLaw" 117 yX10_claim) ∈ tw := tw_in (i := 1192) (by decide +kernel) (by decide +kernel)
theorem q_1193 : (Cond.instanceMethod yX10_claim) ∈ tw := tw_in (i := 1193) (by decide +kernel) (by decide +kernel)
theorem q_1194 : (Cond.selects "NightfallVillage" yX10_claim yX10_claim) ∈ tw := tw_in (i := 1194) (by decide +kernel) (by decide +kernel)
theorem dL_claim_15 : decode cL_claim 15 = .ok (.astore 5, 2) := by decide +kernel
theorem dL_claim_17 : decode cL_claim 17 = .ok (.iconst 1, 1) := by decide +kernel
theorem dL_claim_18 : decode cL_claim 18 = .ok (.ireturn, 1) := by decide +kernel
set_option maxHeartbeats 4000000 in
set_option maxRecDepth 100000 in
theorem c_L_claim (l : Launch) (hst : l.stackTraces = false) (tE : Nat) (adK adV : Nat → Nat) (dC : Nat → ClassId) (dI : Nat → Nat → Nat) (h0 : Nat) (r0 : Nat) (d0 : Nat) (g0 : Nat) (g1 : Nat) (y1 : Nat) (s1 : Nat) (l1 : Nat) (w1 : Nat) (a1 : Nat) (a2 : Nat) (a3 : Nat) (a4 : Nat) (a5 : Nat) (a6 : Nat) (a7 : Nat) (b1 : Nat) (b2 : Nat) (b3 : Nat) (f0 : Nat) (n0 : Nat) (y0 : Nat) (z1 : Nat) (z2 : Nat) (z3 : Nat) (z4 : Nat) (z5 : Nat) (u0 : Nat) (p1 : Int32) (p2 : Int32) (p3 : Int32) (sz : Nat) : vx_Met l yL_claim (Cond.codeWith yL_claim cL_claim 6 (some .int) [(0, 12, 15, 23), (0, 12, 19, 13), (0, 12, 23, 17), (0, 12, 27, 15)] :: tw) ({ frames := 9, cells := 1, slots := 6, locals := 148 }) (va_Pc [.ref h0, .int p1, .int p2, .int p3, .ref u0] (preR tE adK adV (dC, dI) [(h0, .inr (10, [.ref r0, .ref d0, .ref g0, .ref g1, .ref y1, .ref s1, .ref l1, .ref w1])), (r0, .inr (7, [.ref a1, .ref a2, .ref a3, .ref a4, .ref a5, .ref a6, .ref a7, .int 0])), (d0, .inr (2, [.ref b1, .ref b2, .ref b3, .int 0, .int (-1), .int (-1)])), (g0, .inr (4, [.ref f0, .ref n0, .ref y0, .int 0, .int 0, .int 0, .int 45])), (f0, .inr (3, [.ref r0, .ref d0, .ref z1, .ref z2, .ref z3, .ref z4, .ref z5, .int 0, .int 0]))] [] sz)) (va_Qi (fun (r : Int32) (_ : Unit) => r = 1) (fun (_ : Unit) (_ : State) => True) (fun q : Nat => sz ≤ q)) (vx_X (fun _ : Unit => True) (fun E (_ : Unit) (_ : State) => False) (fun q : Nat => sz ≤ q)) 1 6 (fun q : Nat => sz ≤ q) := by
  refine vx_ofWH (cc := cL_claim) (maxL := 6) (ret := (some .int)) (hh := [(0, 12, 15, 23), (0, 12, 19, 13), (0, 12, 23, 17), (0, 12, 27, 15)]) (by decide) rfl ?_
  intro p e s m args below meth c s₁ B hml hv
  obtain ⟨rfl, hsz, hP, hK, ham⟩ := hv
  have hx := B.exec
  have hb := B.bytes
  have hr := B.returns
  have hts := atoms_spec B.pre
  have hq : ∀ w ∈ tw, w.before _ s = true := fun w h => hts w (List.mem_cons_of_mem _ h)
  have hown : s.vm.findClass RL = some m.cls := findClass_of_methodNamed B.named
  have hlocks := B.notSynchronized
  have htab := vx_table (x := yL_claim) B (hq _ q_1191)
  subst hsz
  generalize hAe : (fun q : Nat => s.heap.size ≤ q) = A at ham ⊢
  have hA : ∀ q : Nat, s.heap.size ≤ q → A q := fun q h => by rw [← hAe]; exact h
  have hS : va_S A s.heap s.heap [] := va_S.rf
  have hP : va_P (dC, dI) cls [(h0, .inr (10, [.ref r0, .ref d0, .ref g0, .ref g1, .ref y1, .ref s1, .ref l1, .ref w1])), (r0, .inr (7, [.ref a1, .ref a2, .ref a3, .ref a4, .ref a5, .ref a6, .ref a7, .int 0])), (d0, .inr (2, [.ref b1, .ref b2, .ref b3, .int 0, .int (-1), .int (-1)])), (g0, .inr (4, [.ref f0, .ref n0, .ref y0, .int 0, .int 0, .int 0, .int 45])), (f0, .inr (3, [.ref r0, .ref d0, .ref z1, .ref z2, .ref z3, .ref z4, .ref z5, .int 0, .int 0]))] s.heap := hP
  have hl := lv_entry ([.ref h0, .int p1, .int p2, .int p3, .ref u0]) (n := 6) (Nat.le_of_ble_eq_true rfl)
  rw [lg_entry_eq]
  generalize (lg_sl ([.ref h0, .int p1, .int p2, .int p3, .ref u0]) ++ List.replicate (6 - (lg_sl ([.ref h0, .int p1, .int p2, .int p3, .ref u0])).length) Slot.unset).toArray = ls at hl ⊢
  have hl : lv_has ls 6 [(0, .ref h0), (1, .int p1), (2, .int p2), (3, .int p3), (4, .ref u0)] := hl
  refine lv_aload hx hb dL_claim_0 (lv_at hl 4 rfl) ?_
  refine lv_iconst (v := 0) hx hb dL_claim_2 (by decide) ?_
  refine lv_aload_n hx hb dL_claim_3 rfl (lv_at hl 0 rfl) ?_
  refine lv_iload_n hx hb dL_claim_4 rfl (lv_at hl 1 rfl) ?_
  refine lv_iload_n hx hb dL_claim_5 rfl (lv_at hl 2 rfl) ?_
  refine lv_iload_n hx hb dL_claim_6 rfl (lv_at hl 3 rfl) ?_
  have hPc := hP.sub (ws' := [(h0, .inr (10, [.ref r0, .ref d0, .ref g0, .ref g1, .ref y1, .ref s1, .ref l1, .ref w1])), (r0, .inr (7, [.ref a1, .ref a2, .ref a3, .ref a4, .ref a5, .ref a6, .ref a7, .int 0])), (d0, .inr (2, [.ref b1, .ref b2, .ref b3, .int 0, .int (-1), .int (-1)])), (g0, .inr (4, [.ref f0, .ref n0, .ref y0, .int 0, .int 0, .int 0, .int 45])), (f0, .inr (3, [.ref r0, .ref d0, .ref z1, .ref z2, .ref z3, .ref z4, .ref z5, .int 0, .int 0]))]) [0, 1, 2, 3, 4] rfl
  have hKc := hK.sub (tys' := []) [] rfl
  refine vx_calli (vx_runV (As := [.int p1, .int p2, .int p3]) (rest := [.int 0, .ref u0]) ⟨hx, hb, hml, hown, hq⟩ (c_X_claim l hst tE adK adV dC dI h0 r0 d0 g0 g1 y1 s1 l1 w1 a1 a2 a3 a4 a5 a6 a7 b1 b2 b3 f0 n0 y0 z1 z2 z3 z4 z5 p1 p2 p3 s.heap.size) (tcV 3 hq q_1195 q_1 q_1192 q_1193 q_1194 rfl rfl (by decide +kernel) ⟨Nat.le_of_ble_eq_true rfl, Nat.le_of_ble_eq_true rfl⟩) (preR.V (va_recv hK hP (ci := 10) (q0 := 0) rfl rfl) (preR.of hPc hKc ham hS hA)) rfl rfl hl.1 rfl (lv_room (Nat.le_of_ble_eq_true rfl)) dL_claim_7 ⟨Nat.le_of_ble_eq_true rfl, Nat.le_of_ble_eq_true rfl⟩) hS (fun q _ h => hA q (Nat.le_trans hS.1 h)) (fun q h => hA q (Nat.le_trans hS.1 h)) (fun q _ h => hA q (Nat.le_trans hS.1 h)) (fun E ce q9 u t H1 locs ht hvm hpx hB hz1 hk1 hS hce hcv hcl => ?_) (fun r_1 u t H1 locs ht hvm hw hB hz1 hk1 hS => ?_)
  · have hE : E = "java/lang/IndexOutOfBoundsException" := hB
    subst hE
    refine vx_catch (own := RL) (name := "java/lang/IndexOutOfBoundsException") hown [] ⟨0, 12, 15, 23⟩ [⟨0, 12, 19, 13⟩, ⟨0, 12, 23, 17⟩, ⟨0, 12, 27, 15⟩] (htab.trans rfl) (fun z hz => by cases hz) (by decide) (by decide) (hq _ q_809) (hq _ q_821) hce hcv hcl ?_
    have hP : va_P (dC, dI) cls [(h0, .inr (10, [.ref r0, .ref d0, .ref g0, .ref g1, .ref y1, .ref s1, .ref l1, .ref w1])), (r0, .inr (7, [.ref a1, .ref a2, .ref a3, .ref a4, .ref a5, .ref a6, .ref a7, .int 0])), (d0, .inr (2, [.ref b1, .ref b2, .ref b3, .int 0, .int (-1), .int (-1)])), (g0, .inr (4, [.ref f0, .ref n0, .ref y0, .int 0, .int 0, .int 0, .int 45])), (f0, .inr (3, [.ref r0, .ref d0, .ref z1, .ref z2, .ref z3, .ref z4, .ref z5, .int 0, .int 0]))] H1 := ro_keep hP hk1
    generalize H1 = H at hP hS ⊢
    refine W.widen (k := 1) (n := 6) (Nat.le_of_ble_eq_true rfl) (Nat.le_of_ble_eq_true rfl) ?_
    refine lv_astore (lv' := [(5, .ref q9), (0, .ref h0), (1, .int p1), (2, .int p2), (3, .int p3), (4, .ref u0)]) hx hb dL_claim_15 hl (by decide) rfl (fun ls hl => ?_)
    refine lv_iconst (v := 1) hx hb dL_claim_17 (by decide) ?_
    refine W.widen (k := 1) (n := 6) (Nat.le_of_ble_eq_true rfl) (Nat.le_of_ble_eq_true rfl) ?_
    exact vx_ret (W.iret (v := 1) hx hb hr (fun t ht hW => ⟨⟨1, (), rfl, rfl, trivial⟩, hS.F ht⟩) hS.2.2 dL_claim_18)
  · exact (hw : False).elim
abbrev cL_holds : ByteArray := method_33_code
def yL_holds : MethodName := ⟨RL, "holds", "(LNightfallVillage;II[J)I"⟩
theorem q_1203 : (Cond.codeWith yL_holds cL_holds 5 (some .int) [(0, 10, 13, 23)]) ∈ tw := tw_in (i := 1203) (by decide +kernel) (by decide +kernel)
theorem dL_holds_0 : decode cL_holds 0 = .ok (.aload_n 3, 1) := by decide +kernel
theorem dL_holds_1 : decode cL_holds 1 = .ok (.iconst 0, 1) := by decide +kernel
theorem dL_holds_2 : decode cL_holds 2 = .ok (.aload_n 0, 1) := by decide +kernel
theorem dL_holds_3 : decode cL_holds 3 = .ok (.iload_n 1, 1) := by decide +kernel
theorem dL_holds_4 : decode cL_holds 4 = .ok (.iload_n 2, 1) := by decide +kernel
theorem dL_holds_5 : decode cL_holds 5 = .ok (.invokevirtual 121, 3) := by decide +kernel
theorem q_1207 : (Cond.code yX10_holds cX10_holds 3 (some .char)) ∈ tw := tw_in (i := 1207) (by decide +kernel) (by decide +kernel)
theorem q_1204 : (Cond.methodLink "NightfallVillageLaw" 121 yX10_holds) ∈ tw := tw_in (i := 1204) (by decide +kernel) (by decide +kernel)
theorem q_1205 : (Cond.instanceMethod yX10_holds) ∈ tw := tw_in (i := 1205) (by decide +kernel) (by decide +kernel)
theorem q_1206 : (Cond.selects "NightfallVillage" yX10_holds yX10_holds) ∈ tw := tw_in (i := 1206) (by decide +kernel) (by decide +kernel)
theorem dL_holds_13 : decode cL_holds 13 = .ok (.astore 4, 2) := by decide +kernel
theorem dL_holds_15 : decode cL_holds 15 = .ok (.iconst 1, 1) := by decide +kernel
theorem dL_holds_16 : decode cL_holds 16 = .ok (.ireturn, 1) := by decide +kernel
set_option maxHeartbeats 4000000 in
set_option maxRecDepth 100000 in
theorem c_L_holds (l : Launch) (hst : l.stackTraces = false) (tE : Nat) (adK adV : Nat → Nat) (dC : Nat → ClassId) (dI : Nat → Nat → Nat) (h0 : Nat) (r0 : Nat) (d0 : Nat) (g0 : Nat) (g1 : Nat) (y1 : Nat) (s1 : Nat) (l1 : Nat) (w1 : Nat) (a1 : Nat) (a2 : Nat) (a3 : Nat) (a4 : Nat) (a5 : Nat) (a6 : Nat) (a7 : Nat) (b1 : Nat) (b2 : Nat) (b3 : Nat) (f0 : Nat) (n0 : Nat) (y0 : Nat) (z1 : Nat) (z2 : Nat) (z3 : Nat) (z4 : Nat) (z5 : Nat) (u0 : Nat) (p1 : Int32) (p2 : Int32) (sz : Nat) : vx_Met l yL_holds (Cond.codeWith yL_holds cL_holds 5 (some .int) [(0, 10, 13, 23)] :: tw) ({ frames := 8, cells := 1, slots := 6, locals := 125 }) (va_Pc [.ref h0, .int p1, .int p2, .ref u0] (preR tE adK adV (dC, dI) [(h0, .inr (10, [.ref r0, .ref d0, .ref g0, .ref g1, .ref y1, .ref s1, .ref l1, .ref w1])), (r0, .inr (7, [.ref a1, .ref a2, .ref a3, .ref a4, .ref a5, .ref a6, .ref a7, .int 0])), (d0, .inr (2, [.ref b1, .ref b2, .ref b3, .int 0, .int (-1), .int (-1)])), (g0, .inr (4, [.ref f0, .ref n0, .ref y0, .int 0, .int 0, .int 0, .int 45])), (f0, .inr (3, [.ref r0, .ref d0, .ref z1, .ref z2, .ref z3, .ref z4, .ref z5, .int 0, .int 0]))] [] sz)) (va_Qi (fun (r : Int32) (_ : Unit) => r = 1) (fun (_ : Unit) (_ : State) => True) (fun q : Nat => sz ≤ q)) (vx_X (fun _ : Unit => True) (fun E (_ : Unit) (_ : State) => False) (fun q : Nat => sz ≤ q)) 1 6 (fun q : Nat => sz ≤ q) := by
  refine vx_ofWH (cc := cL_holds) (maxL := 5) (ret := (some .int)) (hh := [(0, 10, 13, 23)]) (by decide) rfl ?_
  intro p e s m args below meth c s₁ B hml hv
  obtain ⟨rfl, hsz, hP, hK, ham⟩ := hv
  have hx := B.exec
  have hb := B.bytes
  have hr := B.returns
  have hts := atoms_spec B.pre
  have hq : ∀ w ∈ tw, w.before _ s = true := fun w h => hts w (List.mem_cons_of_mem _ h)
  have hown : s.vm.findClass RL = some m.cls := findClass_of_methodNamed B.named
  have hlocks := B.notSynchronized
  have htab := vx_table (x := yL_holds) B (hq _ q_1203)
  subst hsz
  generalize hAe : (fun q : Nat => s.heap.size ≤ q) = A at ham ⊢
  have hA : ∀ q : Nat, s.heap.size ≤ q → A q := fun q h => by rw [← hAe]; exact h
  have hS : va_S A s.heap s.heap [] := va_S.rf
  have hP : va_P (dC, dI) cls [(h0, .inr (10, [.ref r0, .ref d0, .ref g0, .ref g1, .ref y1, .ref s1, .ref l1, .ref w1])), (r0, .inr (7, [.ref a1, .ref a2, .ref a3, .ref a4, .ref a5, .ref a6, .ref a7, .int 0])), (d0, .inr (2, [.ref b1, .ref b2, .ref b3, .int 0, .int (-1), .int (-1)])), (g0, .inr (4, [.ref f0, .ref n0, .ref y0, .int 0, .int 0, .int 0, .int 45])), (f0, .inr (3, [.ref r0, .ref d0, .ref z1, .ref z2, .ref z3, .ref z4, .ref z5, .int 0, .int 0]))] s.heap := hP
  have hl := lv_entry ([.ref h0, .int p1, .int p2, .ref u0]) (n := 5) (Nat.le_of_ble_eq_true rfl)
  rw [lg_entry_eq]
  generalize (lg_sl ([.ref h0, .int p1, .int p2, .ref u0]) ++ List.replicate (5 - (lg_sl ([.ref h0, .int p1, .int p2, .ref u0])).length) Slot.unset).toArray = ls at hl ⊢
  have hl : lv_has ls 5 [(0, .ref h0), (1, .int p1), (2, .int p2), (3, .ref u0)] := hl
  refine lv_aload_n hx hb dL_holds_0 rfl (lv_at hl 3 rfl) ?_
  refine lv_iconst (v := 0) hx hb dL_holds_1 (by decide) ?_
  refine lv_aload_n hx hb dL_holds_2 rfl (lv_at hl 0 rfl) ?_
  refine lv_iload_n hx hb dL_holds_3 rfl (lv_at hl 1 rfl) ?_
  refine lv_iload_n hx hb dL_holds_4 rfl (lv_at hl 2 rfl) ?_
  have hPc := hP.sub (ws' := [(h0, .inr (10, [.ref r0, .ref d0, .ref g0, .ref g1, .ref y1, .ref s1, .ref l1, .ref w1])), (r0, .inr (7, [.ref a1, .ref a2, .ref a3, .ref a4, .ref a5, .ref a6, .ref a7, .int 0])), (d0, .inr (2, [.ref b1, .ref b2, .ref b3, .int 0, .int (-1), .int (-1)])), (g0, .inr (4, [.ref f0, .ref n0, .ref y0, .int 0, .int 0, .int 0, .int 45])), (f0, .inr (3, [.ref r0, .ref d0, .ref z1, .ref z2, .ref z3, .ref z4, .ref z5, .int 0, .int 0]))]) [0, 1, 2, 3, 4] rfl
  have hKc := hK.sub (tys' := []) [] rfl
  refine vx_calli (vx_runV (As := [.int p1, .int p2]) (rest := [.int 0, .ref u0]) ⟨hx, hb, hml, hown, hq⟩ (c_X_holds l hst tE adK adV dC dI h0 r0 d0 g0 g1 y1 s1 l1 w1 a1 a2 a3 a4 a5 a6 a7 b1 b2 b3 f0 n0 y0 z1 z2 z3 z4 z5 p1 p2 s.heap.size) (tcV 2 hq q_1207 q_1 q_1204 q_1205 q_1206 rfl rfl (by decide +kernel) ⟨Nat.le_of_ble_eq_true rfl, Nat.le_of_ble_eq_true rfl⟩) (preR.V (va_recv hK hP (ci := 10) (q0 := 0) rfl rfl) (preR.of hPc hKc ham hS hA)) rfl rfl hl.1 rfl (lv_room (Nat.le_of_ble_eq_true rfl)) dL_holds_5 ⟨Nat.le_of_ble_eq_true rfl, Nat.le_of_ble_eq_true rfl⟩) hS (fun q _ h => hA q (Nat.le_trans hS.1 h)) (fun q h => hA q (Nat.le_trans hS.1 h)) (fun q _ h => hA q (Nat.le_trans hS.1 h)) (fun E ce q9 u t H1 locs ht hvm hpx hB hz1 hk1 hS hce hcv hcl => ?_) (fun r_1 u t H1 locs ht hvm hw hB hz1 hk1 hS => ?_)
  · have hE : E = "java/lang/IndexOutOfBoundsException" := hB
    subst hE
    refine vx_catch (own := RL) (name := "java/lang/IndexOutOfBoundsException") hown [] ⟨0, 10, 13, 23⟩ [] (htab.trans rfl) (fun z hz => by cases hz) (by decide) (by decide) (hq _ q_809) (hq _ q_821) hce hcv hcl ?_
    have hP : va_P (dC, dI) cls [(h0, .inr (10, [.ref r0, .ref d0, .ref g0, .ref g1, .ref y1, .ref s1, .ref l1, .ref w1])), (r0, .inr (7, [.ref a1, .ref a2, .ref a3, .ref a4, .ref a5, .ref a6, .ref a7, .int 0])), (d0, .inr (2, [.ref b1, .ref b2, .ref b3, .int 0, .int (-1), .int (-1)])), (g0, .inr (4, [.ref f0, .ref n0, .ref y0, .int 0, .int 0, .int 0, .int 45])), (f0, .inr (3, [.ref r0, .ref d0, .ref z1, .ref z2, .ref z3, .ref z4, .ref z5, .int 0, .int 0]))] H1 := ro_keep hP hk1
    generalize H1 = H at hP hS ⊢
    refine W.widen (k := 1) (n := 6) (Nat.le_of_ble_eq_true rfl) (Nat.le_of_ble_eq_true rfl) ?_
    refine lv_astore (lv' := [(4, .ref q9), (0, .ref h0), (1, .int p1), (2, .int p2), (3, .ref u0)]) hx hb dL_holds_13 hl (by decide) rfl (fun ls hl => ?_)
    refine lv_iconst (v := 1) hx hb dL_holds_15 (by decide) ?_
    refine W.widen (k := 1) (n := 6) (Nat.le_of_ble_eq_true rfl) (Nat.le_of_ble_eq_true rfl) ?_
    exact vx_ret (W.iret (v := 1) hx hb hr (fun t ht hW => ⟨⟨1, (), rfl, rfl, trivial⟩, hS.F ht⟩) hS.2.2 dL_holds_16)
  · exact (hw : False).elim
abbrev cL_liars : ByteArray := method_34_code
def yL_liars : MethodName := ⟨RL, "liars", "(LNightfallVillage;I[J)I"⟩
theorem q_1216 : (Cond.codeWith yL_liars cL_liars 4 (some .int) [(0, 9, 12, 23)]) ∈ tw := tw_in (i := 1216) (by decide +kernel) (by decide +kernel)
theorem dL_liars_0 : decode cL_liars 0 = .ok (.aload_n 2, 1) := by decide +kernel
theorem dL_liars_1 : decode cL_liars 1 = .ok (.iconst 0, 1) := by decide +kernel
theorem dL_liars_2 : decode cL_liars 2 = .ok (.aload_n 0, 1) := by decide +kernel
theorem dL_liars_3 : decode cL_liars 3 = .ok (.iload_n 1, 1) := by decide +kernel
theorem dL_liars_4 : decode cL_liars 4 = .ok (.invokevirtual 124, 3) := by decide +kernel
theorem q_1220 : (Cond.code yX10_liars cX10_liars 2 (some .int)) ∈ tw := tw_in (i := 1220) (by decide +kernel) (by decide +kernel)
theorem q_1217 : (Cond.methodLink "NightfallVillageLaw" 124 yX10_liars) ∈ tw := tw_in (i := 1217) (by decide +kernel) (by decide +kernel)
theorem q_1218 : (Cond.instanceMethod yX10_liars) ∈ tw := tw_in (i := 1218) (by decide +kernel) (by decide +kernel)
theorem q_1219 : (Cond.selects "NightfallVillage" yX10_liars yX10_liars) ∈ tw := tw_in (i := 1219) (by decide +kernel) (by decide +kernel)
theorem dL_liars_12 : decode cL_liars 12 = .ok (.astore_n 3, 1) := by decide +kernel
theorem dL_liars_13 : decode cL_liars 13 = .ok (.iconst 1, 1) := by decide +kernel
theorem dL_liars_14 : decode cL_liars 14 = .ok (.ireturn, 1) := by decide +kernel
set_option maxHeartbeats 4000000 in
set_option maxRecDepth 100000 in
theorem c_L_liars (l : Launch) (hst : l.stackTraces = false) (tE : Nat) (adK adV : Nat → Nat) (dC : Nat → ClassId) (dI : Nat → Nat → Nat) (h0 : Nat) (r0 : Nat) (d0 : Nat) (g0 : Nat) (g1 : Nat) (y1 : Nat) (s1 : Nat) (l1 : Nat) (w1 : Nat) (a1 : Nat) (a2 : Nat) (a3 : Nat) (a4 : Nat) (a5 : Nat) (a6 : Nat) (a7 : Nat) (b1 : Nat) (b2 : Nat) (b3 : Nat) (f0 : Nat) (n0 : Nat) (y0 : Nat) (z1 : Nat) (z2 : Nat) (z3 : Nat) (z4 : Nat) (z5 : Nat) (u0 : Nat) (p1 : Int32) (sz : Nat) : vx_Met l yL_liars (Cond.codeWith yL_liars cL_liars 4 (some .int) [(0, 9, 12, 23)] :: tw) ({ frames := 8, cells := 1, slots := 6, locals := 124 }) (va_Pc [.ref h0, .int p1, .ref u0] (preR tE adK adV (dC, dI) [(h0, .inr (10, [.ref r0, .ref d0, .ref g0, .ref g1, .ref y1, .ref s1, .ref l1, .ref w1])), (r0, .inr (7, [.ref a1, .ref a2, .ref a3, .ref a4, .ref a5, .ref a6, .ref a7, .int 0])), (d0, .inr (2, [.ref b1, .ref b2, .ref b3, .int 0, .int (-1), .int (-1)])), (g0, .inr (4, [.ref f0, .ref n0, .ref y0, .int 0, .int 0, .int 0, .int 45])), (f0, .inr (3, [.ref r0, .ref d0, .ref z1, .ref z2, .ref z3, .ref z4, .ref z5, .int 0, .int 0]))] [] sz)) (va_Qi (fun (r : Int32) (_ : Unit) => r = 1) (fun (_ : Unit) (_ : State) => True) (fun q : Nat => sz ≤ q)) (vx_X (fun _ : Unit => True) (fun E (_ : Unit) (_ : State) => False) (fun q : Nat => sz ≤ q)) 1 6 (fun q : Nat => sz ≤ q) := by
  refine vx_ofWH (cc := cL_liars) (maxL := 4) (ret := (some .int)) (hh := [(0, 9, 12, 23)]) (by decide) rfl ?_
  intro p e s m args below meth c s₁ B hml hv
  obtain ⟨rfl, hsz, hP, hK, ham⟩ := hv
  have hx := B.exec
  have hb := B.bytes
  have hr := B.returns
  have hts := atoms_spec B.pre
  have hq : ∀ w ∈ tw, w.before _ s = true := fun w h => hts w (List.mem_cons_of_mem _ h)
  have hown : s.vm.findClass RL = some m.cls := findClass_of_methodNamed B.named
  have hlocks := B.notSynchronized
  have htab := vx_table (x := yL_liars) B (hq _ q_1216)
  subst hsz
  generalize hAe : (fun q : Nat => s.heap.size ≤ q) = A at ham ⊢
  have hA : ∀ q : Nat, s.heap.size ≤ q → A q := fun q h => by rw [← hAe]; exact h
  have hS : va_S A s.heap s.heap [] := va_S.rf
  have hP : va_P (dC, dI) cls [(h0, .inr (10, [.ref r0, .ref d0, .ref g0, .ref g1, .ref y1, .ref s1, .ref l1, .ref w1])), (r0, .inr (7, [.ref a1, .ref a2, .ref a3, .ref a4, .ref a5, .ref a6, .ref a7, .int 0])), (d0, .inr (2, [.ref b1, .ref b2, .ref b3, .int 0, .int (-1), .int (-1)])), (g0, .inr (4, [.ref f0, .ref n0, .ref y0, .int 0, .int 0, .int 0, .int 45])), (f0, .inr (3, [.ref r0, .ref d0, .ref z1, .ref z2, .ref z3, .ref z4, .ref z5, .int 0, .int 0]))] s.heap := hP
  have hl := lv_entry ([.ref h0, .int p1, .ref u0]) (n := 4) (Nat.le_of_ble_eq_true rfl)
  rw [lg_entry_eq]
  generalize (lg_sl ([.ref h0, .int p1, .ref u0]) ++ List.replicate (4 - (lg_sl ([.ref h0, .int p1, .ref u0])).length) Slot.unset).toArray = ls at hl ⊢
  have hl : lv_has ls 4 [(0, .ref h0), (1, .int p1), (2, .ref u0)] := hl
  refine lv_aload_n hx hb dL_liars_0 rfl (lv_at hl 2 rfl) ?_
  refine lv_iconst (v := 0) hx hb dL_liars_1 (by decide) ?_
  refine lv_aload_n hx hb dL_liars_2 rfl (lv_at hl 0 rfl) ?_
  refine lv_iload_n hx hb dL_liars_3 rfl (lv_at hl 1 rfl) ?_
  have hPc := hP.sub (ws' := [(h0, .inr (10, [.ref r0, .ref d0, .ref g0, .ref g1, .ref y1, .ref s1, .ref l1, .ref w1])), (r0, .inr (7, [.ref a1, .ref a2, .ref a3, .ref a4, .ref a5, .ref a6, .ref a7, .int 0])), (d0, .inr (2, [.ref b1, .ref b2, .ref b3, .int 0, .int (-1), .int (-1)])), (g0, .inr (4, [.ref f0, .ref n0, .ref y0, .int 0, .int 0, .int 0, .int 45])), (f0, .inr (3, [.ref r0, .ref d0, .ref z1, .ref z2, .ref z3, .ref z4, .ref z5, .int 0, .int 0]))]) [0, 1, 2, 3, 4] rfl
  have hKc := hK.sub (tys' := []) [] rfl
  refine vx_calli (vx_runV (As := [.int p1]) (rest := [.int 0, .ref u0]) ⟨hx, hb, hml, hown, hq⟩ (c_X_liars l hst tE adK adV dC dI h0 r0 d0 g0 g1 y1 s1 l1 w1 a1 a2 a3 a4 a5 a6 a7 b1 b2 b3 f0 n0 y0 z1 z2 z3 z4 z5 p1 s.heap.size) (tcV 1 hq q_1220 q_1 q_1217 q_1218 q_1219 rfl rfl (by decide +kernel) ⟨Nat.le_of_ble_eq_true rfl, Nat.le_of_ble_eq_true rfl⟩) (preR.V (va_recv hK hP (ci := 10) (q0 := 0) rfl rfl) (preR.of hPc hKc ham hS hA)) rfl rfl hl.1 rfl (lv_room (Nat.le_of_ble_eq_true rfl)) dL_liars_4 ⟨Nat.le_of_ble_eq_true rfl, Nat.le_of_ble_eq_true rfl⟩) hS (fun q _ h => hA q (Nat.le_trans hS.1 h)) (fun q h => hA q (Nat.le_trans hS.1 h)) (fun q _ h => hA q (Nat.le_trans hS.1 h)) (fun E ce q9 u t H1 locs ht hvm hpx hB hz1 hk1 hS hce hcv hcl => ?_) (fun r_1 u t H1 locs ht hvm hw hB hz1 hk1 hS => ?_)
  · have hE : E = "java/lang/IndexOutOfBoundsException" := hB
    subst hE
    refine vx_catch (own := RL) (name := "java/lang/IndexOutOfBoundsException") hown [] ⟨0, 9, 12, 23⟩ [] (htab.trans rfl) (fun z hz => by cases hz) (by decide) (by decide) (hq _ q_809) (hq _ q_821) hce hcv hcl ?_
    have hP : va_P (dC, dI) cls [(h0, .inr (10, [.ref r0, .ref d0, .ref g0, .ref g1, .ref y1, .ref s1, .ref l1, .ref w1])), (r0, .inr (7, [.ref a1, .ref a2, .ref a3, .ref a4, .ref a5, .ref a6, .ref a7, .int 0])), (d0, .inr (2, [.ref b1, .ref b2, .ref b3, .int 0, .int (-1), .int (-1)])), (g0, .inr (4, [.ref f0, .ref n0, .ref y0, .int 0, .int 0, .int 0, .int 45])), (f0, .inr (3, [.ref r0, .ref d0, .ref z1, .ref z2, .ref z3, .ref z4, .ref z5, .int 0, .int 0]))] H1 := ro_keep hP hk1
    generalize H1 = H at hP hS ⊢
    refine W.widen (k := 1) (n := 6) (Nat.le_of_ble_eq_true rfl) (Nat.le_of_ble_eq_true rfl) ?_
    refine lv_astore_n (lv' := [(3, .ref q9), (0, .ref h0), (1, .int p1), (2, .ref u0)]) hx hb dL_liars_12 rfl hl (by decide) rfl (fun ls hl => ?_)
    refine lv_iconst (v := 1) hx hb dL_liars_13 (by decide) ?_
    refine W.widen (k := 1) (n := 6) (Nat.le_of_ble_eq_true rfl) (Nat.le_of_ble_eq_true rfl) ?_
    exact vx_ret (W.iret (v := 1) hx hb hr (fun t ht hW => ⟨⟨1, (), rfl, rfl, trivial⟩, hS.F ht⟩) hS.2.2 dL_liars_14)
  · exact (hw : False).elim
abbrev cL_changed : ByteArray := method_35_code
def yL_changed : MethodName := ⟨RL, "changed", "(LNightfallVillage;II[J)I"⟩
theorem q_1234 : (Cond.codeWith yL_changed cL_changed 5 (some .int) [(0, 10, 13, 23), (0, 10, 17, 13), (0, 10, 21, 17)]) ∈ tw := tw_in (i := 1234) (by decide +kernel) (by decide +kernel)
theorem dL_changed_0 : decode cL_changed 0 = .ok (.aload_n 3, 1) := by decide +kernel
theorem dL_changed_1 : decode cL_changed 1 = .ok (.iconst 0, 1) := by decide +kernel
theorem dL_changed_2 : decode cL_changed 2 = .ok (.aload_n 0, 1) := by decide +kernel
theorem dL_changed_3 : decode cL_changed 3 = .ok (.iload_n 1, 1) := by decide +kernel
theorem dL_changed_4 : decode cL_changed 4 = .ok (.iload_n 2, 1) := by decide +kernel
theorem dL_changed_5 : decode cL_changed 5 = .ok (.invokevirtual 127, 3) := by decide +kernel
theorem q_1238 : (Cond.code yX10_changed cX10_changed 3 (some .char)) ∈ tw := tw_in (i := 1238) (by decide +kernel) (by decide +kernel)
theorem q_1235 : (Cond.methodLink "NightfallVillageLaw" 127 yX10_changed) ∈ tw := tw_in (i := 1235) (by decide +kernel) (by decide +kernel)
theorem q_1236 : (Cond.instanceMethod yX10_changed) ∈ tw := tw_in (i := 1236) (by decide +kernel) (by decide +kernel)
theorem q_1237 : (Cond.selects "NightfallVillage" yX10_changed yX10_changed) ∈ tw := tw_in (i := 1237) (by decide +kernel) (by decide +kernel)
theorem dL_changed_13 : decode cL_changed 13 = .ok (.astore 4, 2) := by decide +kernel
theorem dL_changed_15 : decode cL_changed 15 = .ok (.iconst 1, 1) := by decide +kernel
theorem dL_changed_16 : decode cL_changed 16 = .ok (.ireturn, 1) := by decide +kernel
set_option maxHeartbeats 4000000 in
set_option maxRecDepth 100000 in
theorem c_L_changed (l : Launch) (hst : l.stackTraces = false) (tE : Nat) (adK adV : Nat → Nat) (dC : Nat → ClassId) (dI : Nat → Nat → Nat) (h0 : Nat) (r0 : Nat) (d0 : Nat) (g0 : Nat) (g1 : Nat) (y1 : Nat) (s1 : Nat) (l1 : Nat) (w1 : Nat) (a1 : Nat) (a2 : Nat) (a3 : Nat) (a4 : Nat) (a5 : Nat) (a6 : Nat) (a7 : Nat) (b1 : Nat) (b2 : Nat) (b3 : Nat) (f0 : Nat) (n0 : Nat) (y0 : Nat) (z1 : Nat) (z2 : Nat) (z3 : Nat) (z4 : Nat) (z5 : Nat) (u0 : Nat) (p1 : Int32) (p2 : Int32) (sz : Nat) : vx_Met l yL_changed (Cond.codeWith yL_changed cL_changed 5 (some .int) [(0, 10, 13, 23), (0, 10, 17, 13), (0, 10, 21, 17)] :: tw) ({ frames := 9, cells := 1, slots := 6, locals := 147 }) (va_Pc [.ref h0, .int p1, .int p2, .ref u0] (preR tE adK adV (dC, dI) [(h0, .inr (10, [.ref r0, .ref d0, .ref g0, .ref g1, .ref y1, .ref s1, .ref l1, .ref w1])), (r0, .inr (7, [.ref a1, .ref a2, .ref a3, .ref a4, .ref a5, .ref a6, .ref a7, .int 0])), (d0, .inr (2, [.ref b1, .ref b2, .ref b3, .int 0, .int (-1), .int (-1)])), (g0, .inr (4, [.ref f0, .ref n0, .ref y0, .int 0, .int 0, .int 0, .int 45])), (f0, .inr (3, [.ref r0, .ref d0, .ref z1, .ref z2, .ref z3, .ref z4, .ref z5, .int 0, .int 0]))] [] sz)) (va_Qi (fun (r : Int32) (_ : Unit) => r = 1) (fun (_ : Unit) (_ : State) => True) (fun q : Nat => sz ≤ q)) (vx_X (fun _ : Unit => True) (fun E (_ : Unit) (_ : State) => False) (fun q : Nat => sz ≤ q)) 1 6 (fun q : Nat => sz ≤ q) := by
  refine vx_ofWH (cc := cL_changed) (maxL := 5) (ret := (some .int)) (hh := [(0, 10, 13, 23), (0, 10, 17, 13), (0, 10, 21, 17)]) (by decide) rfl ?_
  intro p e s m args below meth c s₁ B hml hv
  obtain ⟨rfl, hsz, hP, hK, ham⟩ := hv
  have hx := B.exec
  have hb := B.bytes
  have hr := B.returns
  have hts := atoms_spec B.pre
  have hq : ∀ w ∈ tw, w.before _ s = true := fun w h => hts w (List.mem_cons_of_mem _ h)
  have hown : s.vm.findClass RL = some m.cls := findClass_of_methodNamed B.named
  have hlocks := B.notSynchronized
  have htab := vx_table (x := yL_changed) B (hq _ q_1234)
  subst hsz
  generalize hAe : (fun q : Nat => s.heap.size ≤ q) = A at ham ⊢
  have hA : ∀ q : Nat, s.heap.size ≤ q → A q := fun q h => by rw [← hAe]; exact h
  have hS : va_S A s.heap s.heap [] := va_S.rf
  have hP : va_P (dC, dI) cls [(h0, .inr (10, [.ref r0, .ref d0, .ref g0, .ref g1, .ref y1, .ref s1, .ref l1, .ref w1])), (r0, .inr (7, [.ref a1, .ref a2, .ref a3, .ref a4, .ref a5, .ref a6, .ref a7, .int 0])), (d0, .inr (2, [.ref b1, .ref b2, .ref b3, .int 0, .int (-1), .int (-1)])), (g0, .inr (4, [.ref f0, .ref n0, .ref y0, .int 0, .int 0, .int 0, .int 45])), (f0, .inr (3, [.ref r0, .ref d0, .ref z1, .ref z2, .ref z3, .ref z4, .ref z5, .int 0, .int 0]))] s.heap := hP
  have hl := lv_entry ([.ref h0, .int p1, .int p2, .ref u0]) (n := 5) (Nat.le_of_ble_eq_true rfl)
  rw [lg_entry_eq]
  generalize (lg_sl ([.ref h0, .int p1, .int p2, .ref u0]) ++ List.replicate (5 - (lg_sl ([.ref h0, .int p1, .int p2, .ref u0])).length) Slot.unset).toArray = ls at hl ⊢
  have hl : lv_has ls 5 [(0, .ref h0), (1, .int p1), (2, .int p2), (3, .ref u0)] := hl
  refine lv_aload_n hx hb dL_changed_0 rfl (lv_at hl 3 rfl) ?_
  refine lv_iconst (v := 0) hx hb dL_changed_1 (by decide) ?_
  refine lv_aload_n hx hb dL_changed_2 rfl (lv_at hl 0 rfl) ?_
  refine lv_iload_n hx hb dL_changed_3 rfl (lv_at hl 1 rfl) ?_
  refine lv_iload_n hx hb dL_changed_4 rfl (lv_at hl 2 rfl) ?_
  have hPc := hP.sub (ws' := [(h0, .inr (10, [.ref r0, .ref d0, .ref g0, .ref g1, .ref y1, .ref s1, .ref l1, .ref w1])), (r0, .inr (7, [.ref a1, .ref a2, .ref a3, .ref a4, .ref a5, .ref a6, .ref a7, .int 0])), (d0, .inr (2, [.ref b1, .ref b2, .ref b3, .int 0, .int (-1), .int (-1)])), (g0, .inr (4, [.ref f0, .ref n0, .ref y0, .int 0, .int 0, .int 0, .int 45])), (f0, .inr (3, [.ref r0, .ref d0, .ref z1, .ref z2, .ref z3, .ref z4, .ref z5, .int 0, .int 0]))]) [0, 1, 2, 3, 4] rfl
  have hKc := hK.sub (tys' := []) [] rfl
  refine vx_calli (vx_runV (As := [.int p1, .int p2]) (rest := [.int 0, .ref u0]) ⟨hx, hb, hml, hown, hq⟩ (c_X_changed l hst tE adK adV dC dI h0 r0 d0 g0 g1 y1 s1 l1 w1 a1 a2 a3 a4 a5 a6 a7 b1 b2 b3 f0 n0 y0 z1 z2 z3 z4 z5 p1 p2 s.heap.size) (tcV 2 hq q_1238 q_1 q_1235 q_1236 q_1237 rfl rfl (by decide +kernel) ⟨Nat.le_of_ble_eq_true rfl, Nat.le_of_ble_eq_true rfl⟩) (preR.V (va_recv hK hP (ci := 10) (q0 := 0) rfl rfl) (preR.of hPc hKc ham hS hA)) rfl rfl hl.1 rfl (lv_room (Nat.le_of_ble_eq_true rfl)) dL_changed_5 ⟨Nat.le_of_ble_eq_true rfl, Nat.le_of_ble_eq_true rfl⟩) hS (fun q _ h => hA q (Nat.le_trans hS.1 h)) (fun q h => hA q (Nat.le_trans hS.1 h)) (fun q _ h => hA q (Nat.le_trans hS.1 h)) (fun E ce q9 u t H1 locs ht hvm hpx hB hz1 hk1 hS hce hcv hcl => ?_) (fun r_1 u t H1 locs ht hvm hw hB hz1 hk1 hS => ?_)
  · have hE : E = "java/lang/IndexOutOfBoundsException" := hB
    subst hE
    refine vx_catch (own := RL) (name := "java/lang/IndexOutOfBoundsException") hown [] ⟨0, 10, 13, 23⟩ [⟨0, 10, 17, 13⟩, ⟨0, 10, 21, 17⟩] (htab.trans rfl) (fun z hz => by cases hz) (by decide) (by decide) (hq _ q_809) (hq _ q_821) hce hcv hcl ?_
    have hP : va_P (dC, dI) cls [(h0, .inr (10, [.ref r0, .ref d0, .ref g0, .ref g1, .ref y1, .ref s1, .ref l1, .ref w1])), (r0, .inr (7, [.ref a1, .ref a2, .ref a3, .ref a4, .ref a5, .ref a6, .ref a7, .int 0])), (d0, .inr (2, [.ref b1, .ref b2, .ref b3, .int 0, .int (-1), .int (-1)])), (g0, .inr (4, [.ref f0, .ref n0, .ref y0, .int 0, .int 0, .int 0, .int 45])), (f0, .inr (3, [.ref r0, .ref d0, .ref z1, .ref z2, .ref z3, .ref z4, .ref z5, .int 0, .int 0]))] H1 := ro_keep hP hk1
    generalize H1 = H at hP hS ⊢
    refine W.widen (k := 1) (n := 6) (Nat.le_of_ble_eq_true rfl) (Nat.le_of_ble_eq_true rfl) ?_
    refine lv_astore (lv' := [(4, .ref q9), (0, .ref h0), (1, .int p1), (2, .int p2), (3, .ref u0)]) hx hb dL_changed_13 hl (by decide) rfl (fun ls hl => ?_)
    refine lv_iconst (v := 1) hx hb dL_changed_15 (by decide) ?_
    refine W.widen (k := 1) (n := 6) (Nat.le_of_ble_eq_true rfl) (Nat.le_of_ble_eq_true rfl) ?_
    exact vx_ret (W.iret (v := 1) hx hb hr (fun t ht hW => ⟨⟨1, (), rfl, rfl, trivial⟩, hS.F ht⟩) hS.2.2 dL_changed_16)
  · exact (hw : False).elim
abbrev cL_alive : ByteArray := method_36_code
def yL_alive : MethodName := ⟨RL, "alive", "(LNightfallVillage;II[J)I"⟩
theorem q_1241 : (Cond.codeWith yL_alive cL_alive 5 (some .int) [(0, 10, 13, 23), (0, 10, 17, 13), (0, 10, 21, 17)]) ∈ tw := tw_in (i := 1241) (by decide +kernel) (by decide +kernel)
theorem dL_alive_0 : decode cL_alive 0 = .ok (.aload_n 3, 1) := by decide +kernel
theorem dL_alive_1 : decode cL_alive 1 = .ok (.iconst 0, 1) := by decide +kernel
theorem dL_alive_2 : decode cL_alive 2 = .ok (.aload_n 0, 1) := by decide +kernel
theorem dL_alive_3 : decode cL_alive 3 = .ok (.iload_n 1, 1) := by decide +kernel
theorem dL_alive_4 : decode cL_alive 4 = .ok (.iload_n 2, 1) := by decide +kernel
theorem dL_alive_5 : decode cL_alive 5 = .ok (.invokevirtual 130, 3) := by decide +kernel
theorem q_1245 : (Cond.code yX10_alive cX10_alive 3 (some .int)) ∈ tw := tw_in (i := 1245) (by decide +kernel) (by decide +kernel)
theorem q_1242 : (Cond.methodLink "NightfallVillageLaw" 130 yX10_alive) ∈ tw := tw_in (i := 1242) (by decide +kernel) (by decide +kernel)
theorem q_1243 : (Cond.instanceMethod yX10_alive) ∈ tw := tw_in (i := 1243) (by decide +kernel) (by decide +kernel)
theorem q_1244 : (Cond.selects "NightfallVillage" yX10_alive yX10_alive) ∈ tw := tw_in (i := 1244) (by decide +kernel) (by decide +kernel)
theorem dL_alive_13 : decode cL_alive 13 = .ok (.astore 4, 2) := by decide +kernel
theorem dL_alive_15 : decode cL_alive 15 = .ok (.iconst 1, 1) := by decide +kernel
theorem dL_alive_16 : decode cL_alive 16 = .ok (.ireturn, 1) := by decide +kernel
set_option maxHeartbeats 4000000 in
set_option maxRecDepth 100000 in
theorem c_L_alive (l : Launch) (hst : l.stackTraces = false) (tE : Nat) (adK adV : Nat → Nat) (dC : Nat → ClassId) (dI : Nat → Nat → Nat) (h0 : Nat) (r0 : Nat) (d0 : Nat) (g0 : Nat) (g1 : Nat) (y1 : Nat) (s1 : Nat) (l1 : Nat) (w1 : Nat) (a1 : Nat) (a2 : Nat) (a3 : Nat) (a4 : Nat) (a5 : Nat) (a6 : Nat) (a7 : Nat) (b1 : Nat) (b2 : Nat) (b3 : Nat) (f0 : Nat) (n0 : Nat) (y0 : Nat) (z1 : Nat) (z2 : Nat) (z3 : Nat) (z4 : Nat) (z5 : Nat) (u0 : Nat) (p1 : Int32) (p2 : Int32) (sz : Nat) : vx_Met l yL_alive (Cond.codeWith yL_alive cL_alive 5 (some .int) [(0, 10, 13, 23), (0, 10, 17, 13), (0, 10, 21, 17)] :: tw) ({ frames := 9, cells := 1, slots := 6, locals := 147 }) (va_Pc [.ref h0, .int p1, .int p2, .ref u0] (preR tE adK adV (dC, dI) [(h0, .inr (10, [.ref r0, .ref d0, .ref g0, .ref g1, .ref y1, .ref s1, .ref l1, .ref w1])), (r0, .inr (7, [.ref a1, .ref a2, .ref a3, .ref a4, .ref a5, .ref a6, .ref a7, .int 0])), (d0, .inr (2, [.ref b1, .ref b2, .ref b3, .int 0, .int (-1), .int (-1)])), (g0, .inr (4, [.ref f0, .ref n0, .ref y0, .int 0, .int 0, .int 0, .int 45])), (f0, .inr (3, [.ref r0, .ref d0, .ref z1, .ref z2, .ref z3, .ref z4, .ref z5, .int 0, .int 0]))] [] sz)) (va_Qi (fun (r : Int32) (_ : Unit) => r = 1) (fun (_ : Unit) (_ : State) => True) (fun q : Nat => sz ≤ q)) (vx_X (fun _ : Unit => True) (fun E (_ : Unit) (_ : State) => False) (fun q : Nat => sz ≤ q)) 1 6 (fun q : Nat => sz ≤ q) := by
  refine vx_ofWH (cc := cL_alive) (maxL := 5) (ret := (some .int)) (hh := [(0, 10, 13, 23), (0, 10, 17, 13), (0, 10, 21, 17)]) (by decide) rfl ?_
  intro p e s m args below meth c s₁ B hml hv
  obtain ⟨rfl, hsz, hP, hK, ham⟩ := hv
  have hx := B.exec
  have hb := B.bytes
  have hr := B.returns
  have hts := atoms_spec B.pre
  have hq : ∀ w ∈ tw, w.before _ s = true := fun w h => hts w (List.mem_cons_of_mem _ h)
  have hown : s.vm.findClass RL = some m.cls := findClass_of_methodNamed B.named
  have hlocks := B.notSynchronized
  have htab := vx_table (x := yL_alive) B (hq _ q_1241)
  subst hsz
  generalize hAe : (fun q : Nat => s.heap.size ≤ q) = A at ham ⊢
  have hA : ∀ q : Nat, s.heap.size ≤ q → A q := fun q h => by rw [← hAe]; exact h
  have hS : va_S A s.heap s.heap [] := va_S.rf
  have hP : va_P (dC, dI) cls [(h0, .inr (10, [.ref r0, .ref d0, .ref g0, .ref g1, .ref y1, .ref s1, .ref l1, .ref w1])), (r0, .inr (7, [.ref a1, .ref a2, .ref a3, .ref a4, .ref a5, .ref a6, .ref a7, .int 0])), (d0, .inr (2, [.ref b1, .ref b2, .ref b3, .int 0, .int (-1), .int (-1)])), (g0, .inr (4, [.ref f0, .ref n0, .ref y0, .int 0, .int 0, .int 0, .int 45])), (f0, .inr (3, [.ref r0, .ref d0, .ref z1, .ref z2, .ref z3, .ref z4, .ref z5, .int 0, .int 0]))] s.heap := hP
  have hl := lv_entry ([.ref h0, .int p1, .int p2, .ref u0]) (n := 5) (Nat.le_of_ble_eq_true rfl)
  rw [lg_entry_eq]
  generalize (lg_sl ([.ref h0, .int p1, .int p2, .ref u0]) ++ List.replicate (5 - (lg_sl ([.ref h0, .int p1, .int p2, .ref u0])).length) Slot.unset).toArray = ls at hl ⊢
  have hl : lv_has ls 5 [(0, .ref h0), (1, .int p1), (2, .int p2), (3, .ref u0)] := hl
  refine lv_aload_n hx hb dL_alive_0 rfl (lv_at hl 3 rfl) ?_
  refine lv_iconst (v := 0) hx hb dL_alive_1 (by decide) ?_
  refine lv_aload_n hx hb dL_alive_2 rfl (lv_at hl 0 rfl) ?_
  refine lv_iload_n hx hb dL_alive_3 rfl (lv_at hl 1 rfl) ?_
  refine lv_iload_n hx hb dL_alive_4 rfl (lv_at hl 2 rfl) ?_
  have hPc := hP.sub (ws' := [(h0, .inr (10, [.ref r0, .ref d0, .ref g0, .ref g1, .ref y1, .ref s1, .ref l1, .ref w1])), (r0, .inr (7, [.ref a1, .ref a2, .ref a3, .ref a4, .ref a5, .ref a6, .ref a7, .int 0])), (d0, .inr (2, [.ref b1, .ref b2, .ref b3, .int 0, .int (-1), .int (-1)])), (g0, .inr (4, [.ref f0, .ref n0, .ref y0, .int 0, .int 0, .int 0, .int 45])), (f0, .inr (3, [.ref r0, .ref d0, .ref z1, .ref z2, .ref z3, .ref z4, .ref z5, .int 0, .int 0]))]) [0, 1, 2, 3, 4] rfl
  have hKc := hK.sub (tys' := []) [] rfl
  refine vx_calli (vx_runV (As := [.int p1, .int p2]) (rest := [.int 0, .ref u0]) ⟨hx, hb, hml, hown, hq⟩ (c_X_alive l hst tE adK adV dC dI h0 r0 d0 g0 g1 y1 s1 l1 w1 a1 a2 a3 a4 a5 a6 a7 b1 b2 b3 f0 n0 y0 z1 z2 z3 z4 z5 p1 p2 s.heap.size) (tcV 2 hq q_1245 q_1 q_1242 q_1243 q_1244 rfl rfl (by decide +kernel) ⟨Nat.le_of_ble_eq_true rfl, Nat.le_of_ble_eq_true rfl⟩) (preR.V (va_recv hK hP (ci := 10) (q0 := 0) rfl rfl) (preR.of hPc hKc ham hS hA)) rfl rfl hl.1 rfl (lv_room (Nat.le_of_ble_eq_true rfl)) dL_alive_5 ⟨Nat.le_of_ble_eq_true rfl, Nat.le_of_ble_eq_true rfl⟩) hS (fun q _ h => hA q (Nat.le_trans hS.1 h)) (fun q h => hA q (Nat.le_trans hS.1 h)) (fun q _ h => hA q (Nat.le_trans hS.1 h)) (fun E ce q9 u t H1 locs ht hvm hpx hB hz1 hk1 hS hce hcv hcl => ?_) (fun r_1 u t H1 locs ht hvm hw hB hz1 hk1 hS => ?_)
  · have hE : E = "java/lang/IndexOutOfBoundsException" := hB
    subst hE
    refine vx_catch (own := RL) (name := "java/lang/IndexOutOfBoundsException") hown [] ⟨0, 10, 13, 23⟩ [⟨0, 10, 17, 13⟩, ⟨0, 10, 21, 17⟩] (htab.trans rfl) (fun z hz => by cases hz) (by decide) (by decide) (hq _ q_809) (hq _ q_821) hce hcv hcl ?_
    have hP : va_P (dC, dI) cls [(h0, .inr (10, [.ref r0, .ref d0, .ref g0, .ref g1, .ref y1, .ref s1, .ref l1, .ref w1])), (r0, .inr (7, [.ref a1, .ref a2, .ref a3, .ref a4, .ref a5, .ref a6, .ref a7, .int 0])), (d0, .inr (2, [.ref b1, .ref b2, .ref b3, .int 0, .int (-1), .int (-1)])), (g0, .inr (4, [.ref f0, .ref n0, .ref y0, .int 0, .int 0, .int 0, .int 45])), (f0, .inr (3, [.ref r0, .ref d0, .ref z1, .ref z2, .ref z3, .ref z4, .ref z5, .int 0, .int 0]))] H1 := ro_keep hP hk1
    generalize H1 = H at hP hS ⊢
    refine W.widen (k := 1) (n := 6) (Nat.le_of_ble_eq_true rfl) (Nat.le_of_ble_eq_true rfl) ?_
    refine lv_astore (lv' := [(4, .ref q9), (0, .ref h0), (1, .int p1), (2, .int p2), (3, .ref u0)]) hx hb dL_alive_13 hl (by decide) rfl (fun ls hl => ?_)
    refine lv_iconst (v := 1) hx hb dL_alive_15 (by decide) ?_
    refine W.widen (k := 1) (n := 6) (Nat.le_of_ble_eq_true rfl) (Nat.le_of_ble_eq_true rfl) ?_
    exact vx_ret (W.iret (v := 1) hx hb hr (fun t ht hW => ⟨⟨1, (), rfl, rfl, trivial⟩, hS.F ht⟩) hS.2.2 dL_alive_16)
  · exact (hw : False).elim
abbrev cL_livingShare : ByteArray := method_37_code
def yL_livingShare : MethodName := ⟨RL, "livingShare", "(LNightfallVillage;[D)I"⟩
theorem q_1248 : (Cond.codeWith yL_livingShare cL_livingShare 3 (some .int) [(0, 8, 11, 53)]) ∈ tw := tw_in (i := 1248) (by decide +kernel) (by decide +kernel)
theorem dL_livingShare_0 : decode cL_livingShare 0 = .ok (.aload_n 1, 1) := by decide +kernel
theorem dL_livingShare_1 : decode cL_livingShare 1 = .ok (.iconst 0, 1) := by decide +kernel
theorem dL_livingShare_2 : decode cL_livingShare 2 = .ok (.aload_n 0, 1) := by decide +kernel
theorem dL_livingShare_3 : decode cL_livingShare 3 = .ok (.invokevirtual 133, 3) := by decide +kernel
theorem q_1252 : (Cond.code yX10_livingShare cX10_livingShare 1 (some .float)) ∈ tw := tw_in (i := 1252) (by decide +kernel) (by decide +kernel)
theorem q_1249 : (Cond.methodLink "NightfallVillageLaw" 133 yX10_livingShare) ∈ tw := tw_in (i := 1249) (by decide +kernel) (by decide +kernel)
theorem q_1250 : (Cond.instanceMethod yX10_livingShare) ∈ tw := tw_in (i := 1250) (by decide +kernel) (by decide +kernel)
theorem q_1251 : (Cond.selects "NightfallVillage" yX10_livingShare yX10_livingShare) ∈ tw := tw_in (i := 1251) (by decide +kernel) (by decide +kernel)
theorem q_957 : (Cond.classLink "NightfallVillageLaw" 53 "java/util/NoSuchElementException") ∈ tw := tw_in (i := 957) (by decide +kernel) (by decide +kernel)
theorem q_964 : (Cond.castable "java/util/NoSuchElementException" "java/util/NoSuchElementException") ∈ tw := tw_in (i := 964) (by decide +kernel) (by decide +kernel)
theorem dL_livingShare_11 : decode cL_livingShare 11 = .ok (.astore_n 2, 1) := by decide +kernel
theorem dL_livingShare_12 : decode cL_livingShare 12 = .ok (.iconst 1, 1) := by decide +kernel
theorem dL_livingShare_13 : decode cL_livingShare 13 = .ok (.ireturn, 1) := by decide +kernel
set_option maxHeartbeats 4000000 in
set_option maxRecDepth 100000 in
theorem c_L_livingShare (l : Launch) (hst : l.stackTraces = false) (tE : Nat) (adK adV : Nat → Nat) (dC : Nat → ClassId) (dI : Nat → Nat → Nat) (h0 : Nat) (r0 : Nat) (d0 : Nat) (g0 : Nat) (g1 : Nat) (y1 : Nat) (s1 : Nat) (l1 : Nat) (w1 : Nat) (a1 : Nat) (a2 : Nat) (a3 : Nat) (a4 : Nat) (a5 : Nat) (a6 : Nat) (a7 : Nat) (b1 : Nat) (b2 : Nat) (b3 : Nat) (f0 : Nat) (n0 : Nat) (y0 : Nat) (z1 : Nat) (z2 : Nat) (z3 : Nat) (z4 : Nat) (z5 : Nat) (u0 : Nat) (sz : Nat) : vx_Met l yL_livingShare (Cond.codeWith yL_livingShare cL_livingShare 3 (some .int) [(0, 8, 11, 53)] :: tw) ({ frames := 7, cells := 1, slots := 6, locals := 102 }) (va_Pc [.ref h0, .ref u0] (preR tE adK adV (dC, dI) [(h0, .inr (10, [.ref r0, .ref d0, .ref g0, .ref g1, .ref y1, .ref s1, .ref l1, .ref w1])), (r0, .inr (7, [.ref a1, .ref a2, .ref a3, .ref a4, .ref a5, .ref a6, .ref a7, .int 0])), (d0, .inr (2, [.ref b1, .ref b2, .ref b3, .int 0, .int (-1), .int (-1)])), (g0, .inr (4, [.ref f0, .ref n0, .ref y0, .int 0, .int 0, .int 0, .int 45])), (f0, .inr (3, [.ref r0, .ref d0, .ref z1, .ref z2, .ref z3, .ref z4, .ref z5, .int 0, .int 0]))] [] sz)) (va_Qi (fun (r : Int32) (_ : Unit) => r = 1) (fun (_ : Unit) (_ : State) => True) (fun q : Nat => sz ≤ q)) (vx_X (fun _ : Unit => True) (fun E (_ : Unit) (_ : State) => False) (fun q : Nat => sz ≤ q)) 1 6 (fun q : Nat => sz ≤ q) := by
  refine vx_ofWH (cc := cL_livingShare) (maxL := 3) (ret := (some .int)) (hh := [(0, 8, 11, 53)]) (by decide) rfl ?_
  intro p e s m args below meth c s₁ B hml hv
  obtain ⟨rfl, hsz, hP, hK, ham⟩ := hv
  have hx := B.exec
  have hb := B.bytes
  have hr := B.returns
  have hts := atoms_spec B.pre
  have hq : ∀ w ∈ tw, w.before _ s = true := fun w h => hts w (List.mem_cons_of_mem _ h)
  have hown : s.vm.findClass RL = some m.cls := findClass_of_methodNamed B.named
  have hlocks := B.notSynchronized
  have htab := vx_table (x := yL_livingShare) B (hq _ q_1248)
  subst hsz
  generalize hAe : (fun q : Nat => s.heap.size ≤ q) = A at ham ⊢
  have hA : ∀ q : Nat, s.heap.size ≤ q → A q := fun q h => by rw [← hAe]; exact h
  have hS : va_S A s.heap s.heap [] := va_S.rf
  have hP : va_P (dC, dI) cls [(h0, .inr (10, [.ref r0, .ref d0, .ref g0, .ref g1, .ref y1, .ref s1, .ref l1, .ref w1])), (r0, .inr (7, [.ref a1, .ref a2, .ref a3, .ref a4, .ref a5, .ref a6, .ref a7, .int 0])), (d0, .inr (2, [.ref b1, .ref b2, .ref b3, .int 0, .int (-1), .int (-1)])), (g0, .inr (4, [.ref f0, .ref n0, .ref y0, .int 0, .int 0, .int 0, .int 45])), (f0, .inr (3, [.ref r0, .ref d0, .ref z1, .ref z2, .ref z3, .ref z4, .ref z5, .int 0, .int 0]))] s.heap := hP
  have hl := lv_entry ([.ref h0, .ref u0]) (n := 3) (Nat.le_of_ble_eq_true rfl)
  rw [lg_entry_eq]
  generalize (lg_sl ([.ref h0, .ref u0]) ++ List.replicate (3 - (lg_sl ([.ref h0, .ref u0])).length) Slot.unset).toArray = ls at hl ⊢
  have hl : lv_has ls 3 [(0, .ref h0), (1, .ref u0)] := hl
  refine lv_aload_n hx hb dL_livingShare_0 rfl (lv_at hl 1 rfl) ?_
  refine lv_iconst (v := 0) hx hb dL_livingShare_1 (by decide) ?_
  refine lv_aload_n hx hb dL_livingShare_2 rfl (lv_at hl 0 rfl) ?_
  have hPc := hP.sub (ws' := [(h0, .inr (10, [.ref r0, .ref d0, .ref g0, .ref g1, .ref y1, .ref s1, .ref l1, .ref w1])), (r0, .inr (7, [.ref a1, .ref a2, .ref a3, .ref a4, .ref a5, .ref a6, .ref a7, .int 0])), (d0, .inr (2, [.ref b1, .ref b2, .ref b3, .int 0, .int (-1), .int (-1)])), (g0, .inr (4, [.ref f0, .ref n0, .ref y0, .int 0, .int 0, .int 0, .int 45])), (f0, .inr (3, [.ref r0, .ref d0, .ref z1, .ref z2, .ref z3, .ref z4, .ref z5, .int 0, .int 0]))]) [0, 1, 2, 3, 4] rfl
  have hKc := hK.sub (tys' := []) [] rfl
  refine vx_callf (vx_runV (As := []) (rest := [.int 0, .ref u0]) ⟨hx, hb, hml, hown, hq⟩ (c_X_livingShare l hst tE adK adV dC dI h0 r0 d0 g0 g1 y1 s1 l1 w1 a1 a2 a3 a4 a5 a6 a7 b1 b2 b3 f0 n0 y0 z1 z2 z3 z4 z5 s.heap.size) (tcV 0 hq q_1252 q_1 q_1249 q_1250 q_1251 rfl rfl (by decide +kernel) ⟨Nat.le_of_ble_eq_true rfl, Nat.le_of_ble_eq_true rfl⟩) (preR.V (va_recv hK hP (ci := 10) (q0 := 0) rfl rfl) (preR.of hPc hKc ham hS hA)) rfl rfl hl.1 rfl (lv_room (Nat.le_of_ble_eq_true rfl)) dL_livingShare_3 ⟨Nat.le_of_ble_eq_true rfl, Nat.le_of_ble_eq_true rfl⟩) hS (fun q _ h => hA q (Nat.le_trans hS.1 h)) (fun q h => hA q (Nat.le_trans hS.1 h)) (fun q _ h => hA q (Nat.le_trans hS.1 h)) (fun E ce q9 u t H1 locs ht hvm hpx hB hz1 hk1 hS hce hcv hcl => ?_) (fun r_1 u t H1 locs ht hvm hw hB hz1 hk1 hS => ?_)
  · have hE : E = "java/util/NoSuchElementException" := hB
    subst hE
    refine vx_catch (own := RL) (name := "java/util/NoSuchElementException") hown [] ⟨0, 8, 11, 53⟩ [] (htab.trans rfl) (fun z hz => by cases hz) (by decide) (by decide) (hq _ q_957) (hq _ q_964) hce hcv hcl ?_
    have hP : va_P (dC, dI) cls [(h0, .inr (10, [.ref r0, .ref d0, .ref g0, .ref g1, .ref y1, .ref s1, .ref l1, .ref w1])), (r0, .inr (7, [.ref a1, .ref a2, .ref a3, .ref a4, .ref a5, .ref a6, .ref a7, .int 0])), (d0, .inr (2, [.ref b1, .ref b2, .ref b3, .int 0, .int (-1), .int (-1)])), (g0, .inr (4, [.ref f0, .ref n0, .ref y0, .int 0, .int 0, .int 0, .int 45])), (f0, .inr (3, [.ref r0, .ref d0, .ref z1, .ref z2, .ref z3, .ref z4, .ref z5, .int 0, .int 0]))] H1 := ro_keep hP hk1
    generalize H1 = H at hP hS ⊢
    refine W.widen (k := 1) (n := 6) (Nat.le_of_ble_eq_true rfl) (Nat.le_of_ble_eq_true rfl) ?_
    refine lv_astore_n (lv' := [(2, .ref q9), (0, .ref h0), (1, .ref u0)]) hx hb dL_livingShare_11 rfl hl (by decide) rfl (fun ls hl => ?_)
    refine lv_iconst (v := 1) hx hb dL_livingShare_12 (by decide) ?_
    refine W.widen (k := 1) (n := 6) (Nat.le_of_ble_eq_true rfl) (Nat.le_of_ble_eq_true rfl) ?_
    exact vx_ret (W.iret (v := 1) hx hb hr (fun t ht hW => ⟨⟨1, (), rfl, rfl, trivial⟩, hS.F ht⟩) hS.2.2 dL_livingShare_13)
  · exact (hw : False).elim
abbrev cL_meanWorlds : ByteArray := method_38_code
def yL_meanWorlds : MethodName := ⟨RL, "meanWorlds", "(LNightfallVillage;[D)I"⟩
theorem q_1256 : (Cond.codeWith yL_meanWorlds cL_meanWorlds 3 (some .int) [(0, 7, 10, 17)]) ∈ tw := tw_in (i := 1256) (by decide +kernel) (by decide +kernel)
theorem dL_meanWorlds_0 : decode cL_meanWorlds 0 = .ok (.aload_n 1, 1) := by decide +kernel
theorem dL_meanWorlds_1 : decode cL_meanWorlds 1 = .ok (.iconst 0, 1) := by decide +kernel
theorem dL_meanWorlds_2 : decode cL_meanWorlds 2 = .ok (.aload_n 0, 1) := by decide +kernel
theorem dL_meanWorlds_3 : decode cL_meanWorlds 3 = .ok (.invokevirtual 137, 3) := by decide +kernel
theorem q_1260 : (Cond.code yX10_meanWorlds cX10_meanWorlds 3 (some .double)) ∈ tw := tw_in (i := 1260) (by decide +kernel) (by decide +kernel)
theorem q_1257 : (Cond.methodLink "NightfallVillageLaw" 137 yX10_meanWorlds) ∈ tw := tw_in (i := 1257) (by decide +kernel) (by decide +kernel)
theorem q_1258 : (Cond.instanceMethod yX10_meanWorlds) ∈ tw := tw_in (i := 1258) (by decide +kernel) (by decide +kernel)
theorem q_1259 : (Cond.selects "NightfallVillage" yX10_meanWorlds yX10_meanWorlds) ∈ tw := tw_in (i := 1259) (by decide +kernel) (by decide +kernel)
theorem dL_meanWorlds_10 : decode cL_meanWorlds 10 = .ok (.astore_n 2, 1) := by decide +kernel
theorem dL_meanWorlds_11 : decode cL_meanWorlds 11 = .ok (.iconst 1, 1) := by decide +kernel
theorem dL_meanWorlds_12 : decode cL_meanWorlds 12 = .ok (.ireturn, 1) := by decide +kernel
set_option maxHeartbeats 4000000 in
set_option maxRecDepth 100000 in
theorem c_L_meanWorlds (l : Launch) (hst : l.stackTraces = false) (tE : Nat) (adK adV : Nat → Nat) (dC : Nat → ClassId) (dI : Nat → Nat → Nat) (h0 : Nat) (r0 : Nat) (d0 : Nat) (g0 : Nat) (g1 : Nat) (y1 : Nat) (s1 : Nat) (l1 : Nat) (w1 : Nat) (a1 : Nat) (a2 : Nat) (a3 : Nat) (a4 : Nat) (a5 : Nat) (a6 : Nat) (a7 : Nat) (b1 : Nat) (b2 : Nat) (b3 : Nat) (f0 : Nat) (n0 : Nat) (y0 : Nat) (z1 : Nat) (z2 : Nat) (z3 : Nat) (z4 : Nat) (z5 : Nat) (u0 : Nat) (sz : Nat) : vx_Met l yL_meanWorlds (Cond.codeWith yL_meanWorlds cL_meanWorlds 3 (some .int) [(0, 7, 10, 17)] :: tw) ({ frames := 7, cells := 1, slots := 6, locals := 104 }) (va_Pc [.ref h0, .ref u0] (preR tE adK adV (dC, dI) [(h0, .inr (10, [.ref r0, .ref d0, .ref g0, .ref g1, .ref y1, .ref s1, .ref l1, .ref w1])), (r0, .inr (7, [.ref a1, .ref a2, .ref a3, .ref a4, .ref a5, .ref a6, .ref a7, .int 0])), (d0, .inr (2, [.ref b1, .ref b2, .ref b3, .int 0, .int (-1), .int (-1)])), (g0, .inr (4, [.ref f0, .ref n0, .ref y0, .int 0, .int 0, .int 0, .int 45])), (f0, .inr (3, [.ref r0, .ref d0, .ref z1, .ref z2, .ref z3, .ref z4, .ref z5, .int 0, .int 0]))] [] sz)) (va_Qi (fun (r : Int32) (_ : Unit) => r = 1) (fun (_ : Unit) (_ : State) => True) (fun q : Nat => sz ≤ q)) (vx_X (fun _ : Unit => True) (fun E (_ : Unit) (_ : State) => False) (fun q : Nat => sz ≤ q)) 1 6 (fun q : Nat => sz ≤ q) := by
  refine vx_ofWH (cc := cL_meanWorlds) (maxL := 3) (ret := (some .int)) (hh := [(0, 7, 10, 17)]) (by decide) rfl ?_
  intro p e s m args below meth c s₁ B hml hv
  obtain ⟨rfl, hsz, hP, hK, ham⟩ := hv
  have hx := B.exec
  have hb := B.bytes
  have hr := B.returns
  have hts := atoms_spec B.pre
  have hq : ∀ w ∈ tw, w.before _ s = true := fun w h => hts w (List.mem_cons_of_mem _ h)
  have hown : s.vm.findClass RL = some m.cls := findClass_of_methodNamed B.named
  have hlocks := B.notSynchronized
  have htab := vx_table (x := yL_meanWorlds) B (hq _ q_1256)
  subst hsz
  generalize hAe : (fun q : Nat => s.heap.size ≤ q) = A at ham ⊢
  have hA : ∀ q : Nat, s.heap.size ≤ q → A q := fun q h => by rw [← hAe]; exact h
  have hS : va_S A s.heap s.heap [] := va_S.rf
  have hP : va_P (dC, dI) cls [(h0, .inr (10, [.ref r0, .ref d0, .ref g0, .ref g1, .ref y1, .ref s1, .ref l1, .ref w1])), (r0, .inr (7, [.ref a1, .ref a2, .ref a3, .ref a4, .ref a5, .ref a6, .ref a7, .int 0])), (d0, .inr (2, [.ref b1, .ref b2, .ref b3, .int 0, .int (-1), .int (-1)])), (g0, .inr (4, [.ref f0, .ref n0, .ref y0, .int 0, .int 0, .int 0, .int 45])), (f0, .inr (3, [.ref r0, .ref d0, .ref z1, .ref z2, .ref z3, .ref z4, .ref z5, .int 0, .int 0]))] s.heap := hP
  have hl := lv_entry ([.ref h0, .ref u0]) (n := 3) (Nat.le_of_ble_eq_true rfl)
  rw [lg_entry_eq]
  generalize (lg_sl ([.ref h0, .ref u0]) ++ List.replicate (3 - (lg_sl ([.ref h0, .ref u0])).length) Slot.unset).toArray = ls at hl ⊢
  have hl : lv_has ls 3 [(0, .ref h0), (1, .ref u0)] := hl
  refine lv_aload_n hx hb dL_meanWorlds_0 rfl (lv_at hl 1 rfl) ?_
  refine lv_iconst (v := 0) hx hb dL_meanWorlds_1 (by decide) ?_
  refine lv_aload_n hx hb dL_meanWorlds_2 rfl (lv_at hl 0 rfl) ?_
  have hPc := hP.sub (ws' := [(h0, .inr (10, [.ref r0, .ref d0, .ref g0, .ref g1, .ref y1, .ref s1, .ref l1, .ref w1])), (r0, .inr (7, [.ref a1, .ref a2, .ref a3, .ref a4, .ref a5, .ref a6, .ref a7, .int 0])), (d0, .inr (2, [.ref b1, .ref b2, .ref b3, .int 0, .int (-1), .int (-1)])), (g0, .inr (4, [.ref f0, .ref n0, .ref y0, .int 0, .int 0, .int 0, .int 45])), (f0, .inr (3, [.ref r0, .ref d0, .ref z1, .ref z2, .ref z3, .ref z4, .ref z5, .int 0, .int 0]))]) [0, 1, 2, 3, 4] rfl
  have hKc := hK.sub (tys' := []) [] rfl
  refine vx_calld (vx_runV (As := []) (rest := [.int 0, .ref u0]) ⟨hx, hb, hml, hown, hq⟩ (c_X_meanWorlds l hst tE adK adV dC dI h0 r0 d0 g0 g1 y1 s1 l1 w1 a1 a2 a3 a4 a5 a6 a7 b1 b2 b3 f0 n0 y0 z1 z2 z3 z4 z5 s.heap.size) (tcV 0 hq q_1260 q_1 q_1257 q_1258 q_1259 rfl rfl (by decide +kernel) ⟨Nat.le_of_ble_eq_true rfl, Nat.le_of_ble_eq_true rfl⟩) (preR.V (va_recv hK hP (ci := 10) (q0 := 0) rfl rfl) (preR.of hPc hKc ham hS hA)) rfl rfl hl.1 rfl (lv_room (Nat.le_of_ble_eq_true rfl)) dL_meanWorlds_3 ⟨Nat.le_of_ble_eq_true rfl, Nat.le_of_ble_eq_true rfl⟩) hS (fun q _ h => hA q (Nat.le_trans hS.1 h)) (fun q h => hA q (Nat.le_trans hS.1 h)) (fun q _ h => hA q (Nat.le_trans hS.1 h)) (fun E ce q9 u t H1 locs ht hvm hpx hB hz1 hk1 hS hce hcv hcl => ?_) (fun r_1 u t H1 locs ht hvm hw hB hz1 hk1 hS => ?_)
  · have hE : E = "java/lang/IllegalStateException" := hB
    subst hE
    refine vx_catch (own := RL) (name := "java/lang/IllegalStateException") hown [] ⟨0, 7, 10, 17⟩ [] (htab.trans rfl) (fun z hz => by cases hz) (by decide) (by decide) (hq _ q_685) (hq _ q_788) hce hcv hcl ?_
    have hP : va_P (dC, dI) cls [(h0, .inr (10, [.ref r0, .ref d0, .ref g0, .ref g1, .ref y1, .ref s1, .ref l1, .ref w1])), (r0, .inr (7, [.ref a1, .ref a2, .ref a3, .ref a4, .ref a5, .ref a6, .ref a7, .int 0])), (d0, .inr (2, [.ref b1, .ref b2, .ref b3, .int 0, .int (-1), .int (-1)])), (g0, .inr (4, [.ref f0, .ref n0, .ref y0, .int 0, .int 0, .int 0, .int 45])), (f0, .inr (3, [.ref r0, .ref d0, .ref z1, .ref z2, .ref z3, .ref z4, .ref z5, .int 0, .int 0]))] H1 := ro_keep hP hk1
    generalize H1 = H at hP hS ⊢
    refine W.widen (k := 1) (n := 6) (Nat.le_of_ble_eq_true rfl) (Nat.le_of_ble_eq_true rfl) ?_
    refine lv_astore_n (lv' := [(2, .ref q9), (0, .ref h0), (1, .ref u0)]) hx hb dL_meanWorlds_10 rfl hl (by decide) rfl (fun ls hl => ?_)
    refine lv_iconst (v := 1) hx hb dL_meanWorlds_11 (by decide) ?_
    refine W.widen (k := 1) (n := 6) (Nat.le_of_ble_eq_true rfl) (Nat.le_of_ble_eq_true rfl) ?_
    exact vx_ret (W.iret (v := 1) hx hb hr (fun t ht hW => ⟨⟨1, (), rfl, rfl, trivial⟩, hS.F ht⟩) hS.2.2 dL_meanWorlds_12)
  · exact (hw : False).elim
