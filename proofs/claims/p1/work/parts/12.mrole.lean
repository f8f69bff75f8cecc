section RF16
variable {p : Program} {l : Launch} {e : Env} {R : Room} {s : State} {m : MethodId} {args : Array Value} {below : List Frame} {meth : Method} {c : Code} {H : Heap} {locs : List Loc} {cells slots : Nat}
/-- a call through an interface over a deeper stack -/
theorem rw_runF16 {x y : MethodName} {bytes cc : ByteArray} {maxL nL mc ms n index count : Nat} {ret : Option FieldType} {ws : List Cond} {rm : Room} {Pc : Array Value → State → Prop} {Qc : Array Value → State → Outcome → State → Prop} {free : Addr → Prop} {Ts : List Cond} {own C : String} {cC : ClassId} {b : Addr} {As rest : List Value} {g : JFrame}
    (hat : ClassAt s C cC) (S : CallFix p m c cc nL s args Ts own) (hM : Met l y ws rm Pc Qc mc ms free) (cw : va_CI R s args own C index x y bytes maxL ret ws rm mc ms n) (hlo : 16 + (maxL + 11) + rm.locals ≤ R.locals) (hp : PreV s H C b Pc As)
    (hg : g.method = m) (hn : As.length = n) (hsize : g.locals.size = nL) (hstack : g.stack = As.reverse ++ .ref b :: rest) (hW : 2 * g.monitorRoom + (rest.map fun v => v.category).sum ≤ 16) (hdg : decode cc g.pc = .ok (.invokeinterface index count, 5)) (hf : cells + mc ≤ R.cells ∧ slots + ms ≤ R.slots) :
    va_Run5 p l e R s m args below meth c H locs cells slots mc ms g rest (Qc (Value.ref b :: As).toArray) (free) := by
  obtain ⟨hrc, hrs, hfr, -, hws, hcw⟩ := cw.back
  have hini := cw.init
  have hK : Back l R p e below s args y 5 16 (PreOf R mc ms Pc) (PostOf Qc mc ms free) := back_of (bytes := bytes) (maxL := maxL) (ret := ret) hM hp.1 hrc hrs hfr hlo hws hcw (fun a' U hW => word_at hW (Or.inl (by first | rfl | simp [Cond.onTables, Cond.keeps, Cond.steady])) hini)
  obtain ⟨hx, hb, hml, ho, -⟩ := S
  obtain ⟨-, ⟨cellB, hcB, hoB, hclB⟩, hPc⟩ := hp
  obtain ⟨hfc, kB, hkB, -⟩ := hat
  cases hfc.symm.trans hclB
  intro T hT X
  obtain ⟨v, vm₁, ⟨U', l2, c2, s2⟩, hW₁, X', ⟨g', mk, t, L, e1, e2, hq, h1, hL, h2, h3⟩, st⟩ := va_callIF X hx (C := C) (bytes := bytes) (maxL := maxL) (ret := ret) ho cw.link cw.decl cw.face cw.sel cw.inst cw.pub cw.unh cw.cast cw.code cw.notMH hK (by rw [hT]; exact hcB) hoB hclB hkB hg (hsize.trans hml.symm) (argsL := As) (rest := rest) (fun sig h => hn.trans (cw.len sig h)) hstack hW (by rw [hb]; exact hdg)
    (fun vm₁ hW₁ => ⟨hf.1, hf.2, hPc (T.setVm vm₁) hT hW₁⟩)
  dsimp only [Pt.U, Pt.locs, Pt.cells, Pt.slots] at X' e1 e2 h1 h2 h3 st
  subst h1; subst h2; subst h3
  exact ⟨v, (T.setVm vm₁).calling g' mk (Value.ref b :: As).toArray, t, U', L, hT, X', hL, e1, e2, hq, st⟩
theorem lv_room16 {pc : Nat} {ls : Array Slot} {rest st : List Value} (h : (st.map fun v => v.category).sum ≤ 16) : 2 * (F0 m pc ls rest).monitorRoom + (st.map fun v => v.category).sum ≤ 16 := by
  show 2 * 0 + _ ≤ 16
  omega
end RF16
set_option maxHeartbeats 4000000 in
set_option maxRecDepth 100000 in
theorem c_size1 (l : Launch) (hst : l.stackTraces = false) (tE : Nat) (adK adV : Nat → Nat) (dC : Nat → ClassId) (dI : Nat → Nat → Nat) (h0 : Nat) (n0 : Nat) (sz : Nat) : Met l yJx4a65c_size_8abf5 (Cond.code yJx4a65c_size_8abf5 cJx4a65c_size_8abf5 1 (some .int) :: tw) ({ frames := 0, cells := 0, slots := 0, locals := 0 }) (va_Pc [.ref h0] (preR tE adK adV (dC, dI) [(h0, .inr (14, [.int 1, .ref n0, .int 1]))] [] sz)) (va_Qi (fun (r : Int32) (_ : Unit) => r = 1) (fun (_ : Unit) (_ : State) => True) (fun q : Nat => sz ≤ q)) 0 0 (fun q : Nat => sz ≤ q) := by
  refine Met.ofW (cc := cJx4a65c_size_8abf5) (maxL := 1) (ret := (some .int)) (by decide) rfl ?_
  intro p e s m args below meth c s₁ B hml hv
  obtain ⟨rfl, hsz, hP, hK, ham⟩ := hv
  have hx := B.exec
  have hb := B.bytes
  have hr := B.returns
  have hts := atoms_spec B.pre
  have hq : ∀ w ∈ tw, w.before _ s = true := fun w h => hts w (List.mem_cons_of_mem _ h)
  have hown : s.vm.findClass RJx4a65c = some m.cls := findClass_of_methodNamed B.named
  have hlocks := B.notSynchronized
  subst hsz
  generalize hAe : (fun q : Nat => s.heap.size ≤ q) = A at ham ⊢
  have hA : ∀ q : Nat, s.heap.size ≤ q → A q := fun q h => by rw [← hAe]; exact h
  have hS : va_S A s.heap s.heap [] := va_S.rf
  have hP : va_P (dC, dI) cls [(h0, .inr (14, [.int 1, .ref n0, .int 1]))] s.heap := hP
  have hl := lv_entry ([.ref h0]) (n := 1) (Nat.le_of_ble_eq_true rfl)
  rw [lg_entry_eq]
  generalize (lg_sl ([.ref h0]) ++ List.replicate (1 - (lg_sl ([.ref h0])).length) Slot.unset).toArray = ls at hl ⊢
  have hl : lv_has ls 1 [(0, .ref h0)] := hl
  refine lv_aload_n hx hb dJx4a65c_size_8abf5_0 rfl (lv_at hl 0 rfl) ?_
  refine va_get (D := (dC, dI)) (ci := 14) (v := .int 1) (C := RJx4a65c) (T := TJx4a65c) (N := 3) hx hb hq i_Jx4a65c hown hK hP 0 rfl rfl 2 (by decide) (hq _ q_1288) (fun _ h9 => h9) rfl dJx4a65c_size_8abf5_1 ?_
  refine W.widen (k := 0) (n := 0) (Nat.le_of_ble_eq_true rfl) (Nat.le_of_ble_eq_true rfl) ?_
  exact W.iret (v := 1) hx hb hr (fun t ht hW => ⟨⟨1, (), rfl, rfl, trivial⟩, hS.F ht⟩) hS.2.2 dJx4a65c_size_8abf5_4
set_option maxHeartbeats 4000000 in
set_option maxRecDepth 100000 in
theorem c_size0b (l : Launch) (hst : l.stackTraces = false) (tE : Nat) (adK adV : Nat → Nat) (dC : Nat → ClassId) (dI : Nat → Nat → Nat) (h0 : Nat) (sz : Nat) : Met l yJx4a65c_size_8abf5 (Cond.code yJx4a65c_size_8abf5 cJx4a65c_size_8abf5 1 (some .int) :: tw) ({ frames := 0, cells := 0, slots := 0, locals := 0 }) (va_Pc [.ref h0] (preR tE adK adV (dC, dI) [(h0, .inr (14, [.int 0, .ref tE, .int 0]))] [] sz)) (va_Qi (fun (r : Int32) (_ : Unit) => r = 0) (fun (_ : Unit) (_ : State) => True) (fun q : Nat => sz ≤ q)) 0 0 (fun q : Nat => sz ≤ q) := by
  refine Met.ofW (cc := cJx4a65c_size_8abf5) (maxL := 1) (ret := (some .int)) (by decide) rfl ?_
  intro p e s m args below meth c s₁ B hml hv
  obtain ⟨rfl, hsz, hP, hK, ham⟩ := hv
  have hx := B.exec
  have hb := B.bytes
  have hr := B.returns
  have hts := atoms_spec B.pre
  have hq : ∀ w ∈ tw, w.before _ s = true := fun w h => hts w (List.mem_cons_of_mem _ h)
  have hown : s.vm.findClass RJx4a65c = some m.cls := findClass_of_methodNamed B.named
  have hlocks := B.notSynchronized
  subst hsz
  generalize hAe : (fun q : Nat => s.heap.size ≤ q) = A at ham ⊢
  have hA : ∀ q : Nat, s.heap.size ≤ q → A q := fun q h => by rw [← hAe]; exact h
  have hS : va_S A s.heap s.heap [] := va_S.rf
  have hP : va_P (dC, dI) cls [(h0, .inr (14, [.int 0, .ref tE, .int 0]))] s.heap := hP
  have hl := lv_entry ([.ref h0]) (n := 1) (Nat.le_of_ble_eq_true rfl)
  rw [lg_entry_eq]
  generalize (lg_sl ([.ref h0]) ++ List.replicate (1 - (lg_sl ([.ref h0])).length) Slot.unset).toArray = ls at hl ⊢
  have hl : lv_has ls 1 [(0, .ref h0)] := hl
  refine lv_aload_n hx hb dJx4a65c_size_8abf5_0 rfl (lv_at hl 0 rfl) ?_
  refine va_get (D := (dC, dI)) (ci := 14) (v := .int 0) (C := RJx4a65c) (T := TJx4a65c) (N := 3) hx hb hq i_Jx4a65c hown hK hP 0 rfl rfl 2 (by decide) (hq _ q_1288) (fun _ h9 => h9) rfl dJx4a65c_size_8abf5_1 ?_
  refine W.widen (k := 0) (n := 0) (Nat.le_of_ble_eq_true rfl) (Nat.le_of_ble_eq_true rfl) ?_
  exact W.iret (v := 0) hx hb hr (fun t ht hW => ⟨⟨0, (), rfl, rfl, trivial⟩, hS.F ht⟩) hS.2.2 dJx4a65c_size_8abf5_4
abbrev cJx4a65c_grow_92f84 : ByteArray := prog_40_method_6_code
def yJx4a65c_grow_92f84 : MethodName := ⟨RJx4a65c, "grow", "(I)[Ljava/lang/Object;"⟩
theorem dJx4a65c_grow_92f84_0 : decode cJx4a65c_grow_92f84 0 = .ok (.aload_n 0, 1) := by decide +kernel
theorem dJx4a65c_grow_92f84_1 : decode cJx4a65c_grow_92f84 1 = .ok (.getfield 9, 3) := by decide +kernel
theorem dJx4a65c_grow_92f84_4 : decode cJx4a65c_grow_92f84 4 = .ok (.arraylength, 1) := by decide +kernel
theorem dJx4a65c_grow_92f84_5 : decode cJx4a65c_grow_92f84 5 = .ok (.istore_n 2, 1) := by decide +kernel
theorem dJx4a65c_grow_92f84_6 : decode cJx4a65c_grow_92f84 6 = .ok (.iload_n 2, 1) := by decide +kernel
theorem dJx4a65c_grow_92f84_7 : decode cJx4a65c_grow_92f84 7 = .ok (.ifCond .gt 13, 3) := by decide +kernel
theorem dJx4a65c_grow_92f84_10 : decode cJx4a65c_grow_92f84 10 = .ok (.aload_n 0, 1) := by decide +kernel
theorem dJx4a65c_grow_92f84_11 : decode cJx4a65c_grow_92f84 11 = .ok (.getfield 9, 3) := by decide +kernel
theorem dJx4a65c_grow_92f84_14 : decode cJx4a65c_grow_92f84 14 = .ok (.getstatic 39, 3) := by decide +kernel
theorem dJx4a65c_grow_92f84_17 : decode cJx4a65c_grow_92f84 17 = .ok (.if_acmp .eq 28, 3) := by decide +kernel
theorem dJx4a65c_grow_92f84_45 : decode cJx4a65c_grow_92f84 45 = .ok (.aload_n 0, 1) := by decide +kernel
theorem dJx4a65c_grow_92f84_46 : decode cJx4a65c_grow_92f84 46 = .ok (.bipush 10, 2) := by decide +kernel
theorem dJx4a65c_grow_92f84_48 : decode cJx4a65c_grow_92f84 48 = .ok (.iload_n 1, 1) := by decide +kernel
theorem dJx4a65c_grow_92f84_49 : decode cJx4a65c_grow_92f84 49 = .ok (.invokestatic 79, 3) := by decide +kernel
theorem q_1591 : (Cond.methodLink "java/util/ArrayList" 79 yJ9_max_7cf53) ∈ tw := tw_in (i := 1591) (by decide +kernel) (by decide +kernel)
theorem dJx4a65c_grow_92f84_52 : decode cJx4a65c_grow_92f84 52 = .ok (.anewarray 7, 3) := by decide +kernel
theorem q_1592 : (Cond.classLink "java/util/ArrayList" 7 "java/lang/Object") ∈ tw := tw_in (i := 1592) (by decide +kernel) (by decide +kernel)
theorem dJx4a65c_grow_92f84_55 : decode cJx4a65c_grow_92f84 55 = .ok (.dup_x1, 1) := by decide +kernel
theorem dJx4a65c_grow_92f84_56 : decode cJx4a65c_grow_92f84 56 = .ok (.putfield 9, 3) := by decide +kernel
theorem dJx4a65c_grow_92f84_59 : decode cJx4a65c_grow_92f84 59 = .ok (.areturn, 1) := by decide +kernel
set_option maxHeartbeats 4000000 in
set_option maxRecDepth 100000 in
theorem c_grow1 (l : Launch) (hst : l.stackTraces = false) (tE : Nat) (adK adV : Nat → Nat) (dC : Nat → ClassId) (dI : Nat → Nat → Nat) (h0 : Nat) (sz : Nat) : Met l yJx4a65c_grow_92f84 (Cond.code yJx4a65c_grow_92f84 cJx4a65c_grow_92f84 4 (some (.array (.object "java/lang/Object"))) :: tw) ({ frames := 1, cells := 1, slots := 10, locals := 14 }) (va_Pc [.ref h0, .int 1] (pre tE adK adV (dC, dI) [(h0, .inr (14, [.int 1, .ref tE, .int 0]))] [] sz)) (va_Qr (fun (_ : Unit) => True) (fun (_ : Unit) (ra : Nat) (t : State) => ∃ (ka : ClassId), va_P (dC, dI) cls [(h0, .inr (14, [.int 1, .ref ra, .int 0])), (ra, .inl (ka, 10, .inr (.inr (.inr (.inr (fun _ => none))))))] t.heap ∧ va_K (dC, dI) cls [(ka, (.object "java/lang/Object"))] t ∧ va_D (va_A [(h0, .inr (14, [.int 1, .ref tE, .int 0]))] sz) [(h0, .inr (14, [.int 1, .ref ra, .int 0])), (ra, .inl (ka, 10, .inr (.inr (.inr (.inr (fun _ => none))))))]) (va_A [(h0, .inr (14, [.int 1, .ref tE, .int 0]))] sz)) 1 10 (va_A [(h0, .inr (14, [.int 1, .ref tE, .int 0]))] sz) := by
  refine Met.ofW (cc := cJx4a65c_grow_92f84) (maxL := 4) (ret := (some (.array (.object "java/lang/Object")))) (by decide) rfl ?_
  intro p e s m args below meth c s₁ B hml hv
  obtain ⟨rfl, hsz, hP, hK, hD0, ham⟩ := hv
  have hx := B.exec
  have hb := B.bytes
  have hr := B.returns
  have hts := atoms_spec B.pre
  have hq : ∀ w ∈ tw, w.before _ s = true := fun w h => hts w (List.mem_cons_of_mem _ h)
  have hown : s.vm.findClass RJx4a65c = some m.cls := findClass_of_methodNamed B.named
  have hlocks := B.notSynchronized
  subst hsz
  have hD := hD0.self (sz := s.heap.size)
  generalize hAe : va_A [(h0, .inr (14, [.int 1, .ref tE, .int 0]))] s.heap.size = A at hD ham ⊢
  have hA : ∀ q : Nat, s.heap.size ≤ q → A q := fun q h => by rw [← hAe]; exact Or.inr h
  have hS : va_S A s.heap s.heap [] := va_S.rf
  have hP : va_P (dC, dI) cls [(h0, .inr (14, [.int 1, .ref tE, .int 0]))] s.heap := hP
  have hl := lv_entry ([.ref h0, .int 1]) (n := 4) (Nat.le_of_ble_eq_true rfl)
  rw [lg_entry_eq]
  generalize (lg_sl ([.ref h0, .int 1]) ++ List.replicate (4 - (lg_sl ([.ref h0, .int 1])).length) Slot.unset).toArray = ls at hl ⊢
  have hl : lv_has ls 4 [(0, .ref h0), (1, .int 1)] := hl
  refine lv_aload_n hx hb dJx4a65c_grow_92f84_0 rfl (lv_at hl 0 rfl) ?_
  refine va_get (D := (dC, dI)) (ci := 14) (v := .ref tE) (C := RJx4a65c) (T := TJx4a65c) (N := 3) hx hb hq i_Jx4a65c hown hK hP 0 rfl rfl 1 (by decide) (hq _ q_1285) (fun _ h9 => h9) rfl dJx4a65c_grow_92f84_1 ?_
  refine va_tlen hx hb ham.2.2.1.2 hS (v := 0) (by decide) dJx4a65c_grow_92f84_4 ?_
  refine lv_istore_n (lv' := [(2, .int 0), (0, .ref h0), (1, .int 1)]) hx hb dJx4a65c_grow_92f84_5 rfl hl (by decide) rfl (fun ls hl => ?_)
  refine lv_iload_n hx hb dJx4a65c_grow_92f84_6 rfl (lv_at hl 0 rfl) ?_
  refine lv_if_gt (tgt := 20) hx hb dJx4a65c_grow_92f84_7 (by decide) (fun c_1 => ?_) (fun c_1 => ?_)
  · exact absurd c_1 (by decide)
  · refine lv_aload_n hx hb dJx4a65c_grow_92f84_10 rfl (lv_at hl 1 rfl) ?_
    refine va_get (D := (dC, dI)) (ci := 14) (v := .ref tE) (C := RJx4a65c) (T := TJx4a65c) (N := 3) hx hb hq i_Jx4a65c hown hK hP 0 rfl rfl 1 (by decide) (hq _ q_1285) (fun _ h9 => h9) rfl dJx4a65c_grow_92f84_11 ?_
    refine va_gets hx hb ham.2.2.1.1 hS hown (hq _ q_1283) (fun _ h9 => h9) dJx4a65c_grow_92f84_14 ?_
    refine lv_acmp_eq (rx := some tE) (ry := some tE) (tgt := 45) hx hb dJx4a65c_grow_92f84_17 (by decide) (fun c_2 => ?_) (fun c_2 => ?_)
    · refine lv_aload_n hx hb dJx4a65c_grow_92f84_45 rfl (lv_at hl 1 rfl) ?_
      refine lv_bipush (v := 10) hx hb dJx4a65c_grow_92f84_46 (by decide) ?_
      refine lv_iload_n hx hb dJx4a65c_grow_92f84_48 rfl (lv_at hl 2 rfl) ?_
      refine va_mmax hx hb (hml.trans hl.1.symm) hown (hq _ q_1591) (hq _ q_1417) (hq _ q_25) (hq _ q_1418) (Nat.le_of_ble_eq_true rfl) (Nat.le_of_ble_eq_true rfl) (Nat.le_of_ble_eq_true rfl) (Nat.le_of_ble_eq_true rfl) dJx4a65c_grow_92f84_49 ?_
      refine W.eq (congrArg (fun z : Int32 => F0 m 52 ls (.int z :: [.ref h0])) (by decide : (if (10 : Int32) < 1 then (1 : Int32) else 10) = 10)) ?_
      refine va_newq (N' := 10) hx hb hown (hq _ q_1592) ham.2.2.2.2.2.2 hK hP hD hS hA (by decide) (by decide) (Nat.le_of_ble_eq_true rfl) (Nat.le_of_ble_eq_true rfl) (Nat.le_of_ble_eq_true rfl) dJx4a65c_grow_92f84_52 (fun a_3 cA_4 H hK hP hD hS => ?_)
      have hP : va_P (dC, dI) cls [(h0, .inr (14, [.int 1, .ref tE, .int 0])), (a_3, .inl (cA_4, 10, .inr (.inr (.inr (.inr (fun _ => none))))))] H := hP
      have hD : va_D A [(h0, .inr (14, [.int 1, .ref tE, .int 0])), (a_3, .inl (cA_4, 10, .inr (.inr (.inr (.inr (fun _ => none))))))] := hD
      have hK : va_K (dC, dI) cls [(cA_4, (.object "java/lang/Object"))] s := hK
      refine W.widen (k := 1) (n := 10) (Nat.le_of_ble_eq_true rfl) (Nat.le_of_ble_eq_true rfl) ?_
      refine lv_dup_x1 hx hb dJx4a65c_grow_92f84_55 rfl rfl ?_
      refine va_put (D := (dC, dI)) (ci := 14) (v := .ref a_3) (ty := (.array (.object "java/lang/Object"))) (C := RJx4a65c) (T := TJx4a65c) (N := 3) hx hb hq i_Jx4a65c tyJx4a65c tyJx4a65c_ok nmJx4a65c hown hK hP hD hS 0 rfl rfl 1 (by decide) (hq _ q_1285) (fun _ h9 => h9) rfl (by decide +kernel) rfl rfl (Nat.le_of_ble_eq_true rfl) dJx4a65c_grow_92f84_56 (fun H locs hP hD hS => ?_)
      have hP : va_P (dC, dI) cls [(h0, .inr (14, [.int 1, .ref a_3, .int 0])), (a_3, .inl (cA_4, 10, .inr (.inr (.inr (.inr (fun _ => none))))))] H := hP
      have hD : va_D A [(h0, .inr (14, [.int 1, .ref a_3, .int 0])), (a_3, .inl (cA_4, 10, .inr (.inr (.inr (.inr (fun _ => none))))))] := hD
      refine W.widen (k := 1) (n := 10) (Nat.le_of_ble_eq_true rfl) (Nat.le_of_ble_eq_true rfl) ?_
      have hP9 := hP.sub (ws' := [(h0, .inr (14, [.int 1, .ref a_3, .int 0])), (a_3, .inl (cA_4, 10, .inr (.inr (.inr (.inr (fun _ => none))))))]) [0, 1] rfl
      have hD9 := hD.sub (ws' := [(h0, .inr (14, [.int 1, .ref a_3, .int 0])), (a_3, .inl (cA_4, 10, .inr (.inr (.inr (.inr (fun _ => none))))))]) [0, 1] (by decide) rfl
      have hK9 := hK.sub (tys' := [(cA_4, (.object "java/lang/Object"))]) [0] rfl
      exact W.aret (v := .ref a_3) hx hb hr (Or.inr ⟨_, rfl⟩) (Or.inr ⟨_, rfl⟩) (fun t ht hW => ⟨⟨(), a_3, rfl, trivial, ⟨cA_4, by rw [ht]; exact hP9, va_K.moved hW.alike hK9, hD9⟩⟩, hS.F ht⟩) hS.2.2 dJx4a65c_grow_92f84_59
    · exact (c_2 rfl).elim
abbrev cJx4a65c_grow_d5877 : ByteArray := prog_40_method_7_code
def yJx4a65c_grow_d5877 : MethodName := ⟨RJx4a65c, "grow", "()[Ljava/lang/Object;"⟩
theorem dJx4a65c_grow_d5877_0 : decode cJx4a65c_grow_d5877 0 = .ok (.aload_n 0, 1) := by decide +kernel
theorem dJx4a65c_grow_d5877_1 : decode cJx4a65c_grow_d5877 1 = .ok (.aload_n 0, 1) := by decide +kernel
theorem dJx4a65c_grow_d5877_2 : decode cJx4a65c_grow_d5877 2 = .ok (.getfield 48, 3) := by decide +kernel
theorem dJx4a65c_grow_d5877_5 : decode cJx4a65c_grow_d5877 5 = .ok (.iconst 1, 1) := by decide +kernel
theorem dJx4a65c_grow_d5877_6 : decode cJx4a65c_grow_d5877 6 = .ok (.iadd, 1) := by decide +kernel
theorem dJx4a65c_grow_d5877_7 : decode cJx4a65c_grow_d5877 7 = .ok (.invokevirtual 69, 3) := by decide +kernel
theorem q_1544 : (Cond.code yJx4a65c_grow_92f84 cJx4a65c_grow_92f84 4 (some (.array (.object "java/lang/Object")))) ∈ tw := tw_in (i := 1544) (by decide +kernel) (by decide +kernel)
theorem q_1541 : (Cond.methodLink "java/util/ArrayList" 69 yJx4a65c_grow_92f84) ∈ tw := tw_in (i := 1541) (by decide +kernel) (by decide +kernel)
theorem q_1543 : (Cond.instanceMethod yJx4a65c_grow_92f84) ∈ tw := tw_in (i := 1543) (by decide +kernel) (by decide +kernel)
theorem qp_25 : (Cond.selects yJx4a65c_grow_92f84.cls yJx4a65c_grow_92f84 yJx4a65c_grow_92f84) ∈ tw := tw_inP (i := 25) (by decide +kernel) (by decide +kernel)
theorem dJx4a65c_grow_d5877_10 : decode cJx4a65c_grow_d5877 10 = .ok (.areturn, 1) := by decide +kernel
set_option maxHeartbeats 4000000 in
set_option maxRecDepth 100000 in
theorem c_grow0 (l : Launch) (hst : l.stackTraces = false) (tE : Nat) (adK adV : Nat → Nat) (dC : Nat → ClassId) (dI : Nat → Nat → Nat) (h0 : Nat) (sz : Nat) : Met l yJx4a65c_grow_d5877 (Cond.code yJx4a65c_grow_d5877 cJx4a65c_grow_d5877 1 (some (.array (.object "java/lang/Object"))) :: tw) ({ frames := 2, cells := 1, slots := 10, locals := 37 }) (va_Pc [.ref h0] (pre tE adK adV (dC, dI) [(h0, .inr (14, [.int 1, .ref tE, .int 0]))] [] sz)) (va_Qr (fun (_ : Unit) => True) (fun (_ : Unit) (ra : Nat) (t : State) => ∃ (ka : ClassId), va_P (dC, dI) cls [(h0, .inr (14, [.int 1, .ref ra, .int 0])), (ra, .inl (ka, 10, .inr (.inr (.inr (.inr (fun _ => none))))))] t.heap ∧ va_K (dC, dI) cls [(ka, (.object "java/lang/Object"))] t ∧ va_D (va_A [(h0, .inr (14, [.int 1, .ref tE, .int 0]))] sz) [(h0, .inr (14, [.int 1, .ref ra, .int 0])), (ra, .inl (ka, 10, .inr (.inr (.inr (.inr (fun _ => none))))))]) (va_A [(h0, .inr (14, [.int 1, .ref tE, .int 0]))] sz)) 1 10 (va_A [(h0, .inr (14, [.int 1, .ref tE, .int 0]))] sz) := by
  refine Met.ofW (cc := cJx4a65c_grow_d5877) (maxL := 1) (ret := (some (.array (.object "java/lang/Object")))) (by decide) rfl ?_
  intro p e s m args below meth c s₁ B hml hv
  obtain ⟨rfl, hsz, hP, hK, hD0, ham⟩ := hv
  have hx := B.exec
  have hb := B.bytes
  have hr := B.returns
  have hts := atoms_spec B.pre
  have hq : ∀ w ∈ tw, w.before _ s = true := fun w h => hts w (List.mem_cons_of_mem _ h)
  have hown : s.vm.findClass RJx4a65c = some m.cls := findClass_of_methodNamed B.named
  have hlocks := B.notSynchronized
  subst hsz
  have hD := hD0.self (sz := s.heap.size)
  generalize hAe : va_A [(h0, .inr (14, [.int 1, .ref tE, .int 0]))] s.heap.size = A at hD ham ⊢
  have hA : ∀ q : Nat, s.heap.size ≤ q → A q := fun q h => by rw [← hAe]; exact Or.inr h
  have hS : va_S A s.heap s.heap [] := va_S.rf
  have hP : va_P (dC, dI) cls [(h0, .inr (14, [.int 1, .ref tE, .int 0]))] s.heap := hP
  have hl := lv_entry ([.ref h0]) (n := 1) (Nat.le_of_ble_eq_true rfl)
  rw [lg_entry_eq]
  generalize (lg_sl ([.ref h0]) ++ List.replicate (1 - (lg_sl ([.ref h0])).length) Slot.unset).toArray = ls at hl ⊢
  have hl : lv_has ls 1 [(0, .ref h0)] := hl
  refine lv_aload_n hx hb dJx4a65c_grow_d5877_0 rfl (lv_at hl 0 rfl) ?_
  refine lv_aload_n hx hb dJx4a65c_grow_d5877_1 rfl (lv_at hl 0 rfl) ?_
  refine va_get (D := (dC, dI)) (ci := 14) (v := .int 0) (C := RJx4a65c) (T := TJx4a65c) (N := 3) hx hb hq i_Jx4a65c hown hK hP 0 rfl rfl 2 (by decide) (hq _ q_1288) (fun _ h9 => h9) rfl dJx4a65c_grow_d5877_2 ?_
  refine lv_iconst (v := 1) hx hb dJx4a65c_grow_d5877_5 (by decide) ?_
  refine lv_iadd hx hb dJx4a65c_grow_d5877_6 ?_
  refine W.eq (congrArg (fun z : Int32 => F0 m 7 ls (.int z :: [.ref h0])) (by decide : (0 + 1 : Int32) = 1)) ?_
  have hPc := hP.sub (ws' := [(h0, .inr (14, [.int 1, .ref tE, .int 0]))]) [0] rfl
  have hKc := hK.sub (tys' := []) [] rfl
  have hDc := hD.sub (ws' := [(h0, .inr (14, [.int 1, .ref tE, .int 0]))]) [0] (by decide) rfl
  have hFc := va_free (wc := [(h0, .inr (14, [.int 1, .ref tE, .int 0]))]) hD hS hA [0] rfl
  refine va_callr (va_runV (As := [.int 1]) (rest := []) ⟨hx, hb, hml, hown, hq⟩ (c_grow1 l hst tE adK adV dC dI h0 s.heap.size) (tcV 1 hq q_1544 q_15 q_1541 q_1543 qp_25 rfl rfl (by decide +kernel) ⟨Nat.le_of_ble_eq_true rfl, Nat.le_of_ble_eq_true rfl⟩) (pre.V (va_recv hK hP (ci := 14) (q0 := 0) rfl rfl) (pre.of hPc hDc hKc ham hS hFc)) rfl rfl hl.1 rfl (lv_room (Nat.le_of_ble_eq_true rfl)) dJx4a65c_grow_d5877_7 ⟨Nat.le_of_ble_eq_true rfl, Nat.le_of_ble_eq_true rfl⟩) hS (fun q _ h => hFc q h) hFc (fun u r_1 t H1 locs ht hvm hw hB hz1 hk1 hS => ?_)
  obtain ⟨ka_2, hP1, hK1, hD1⟩ := hB
  rw [ht] at hP1
  have hK1 := va_K.moved hvm.symm hK1
  obtain ⟨hP, hD⟩ := va_join (wr := []) (w1 := [(h0, .inr (14, [.int 1, .ref r_1, .int 0])), (r_1, .inl (ka_2, 10, .inr (.inr (.inr (.inr (fun _ => none))))))]) (wc := [(h0, .inr (14, [.int 1, .ref tE, .int 0]))]) hP hD [0] [] rfl rfl (by decide) (by decide) hk1 hFc hP1 hD1
  have hK := (hK.sub (tys' := []) [] rfl).app hK1
  generalize H1 = H at hP hS ⊢
  have hP : va_P (dC, dI) cls [(h0, .inr (14, [.int 1, .ref r_1, .int 0])), (r_1, .inl (ka_2, 10, .inr (.inr (.inr (.inr (fun _ => none))))))] H := hP
  have hD : va_D A [(h0, .inr (14, [.int 1, .ref r_1, .int 0])), (r_1, .inl (ka_2, 10, .inr (.inr (.inr (.inr (fun _ => none))))))] := hD
  have hK : va_K (dC, dI) cls [(ka_2, (.object "java/lang/Object"))] s := hK
  refine W.widen (k := 1) (n := 10) (Nat.le_of_ble_eq_true rfl) (Nat.le_of_ble_eq_true rfl) ?_
  refine W.widen (k := 1) (n := 10) (Nat.le_of_ble_eq_true rfl) (Nat.le_of_ble_eq_true rfl) ?_
  have hP9 := hP.sub (ws' := [(h0, .inr (14, [.int 1, .ref r_1, .int 0])), (r_1, .inl (ka_2, 10, .inr (.inr (.inr (.inr (fun _ => none))))))]) [0, 1] rfl
  have hD9 := hD.sub (ws' := [(h0, .inr (14, [.int 1, .ref r_1, .int 0])), (r_1, .inl (ka_2, 10, .inr (.inr (.inr (.inr (fun _ => none))))))]) [0, 1] (by decide) rfl
  have hK9 := hK.sub (tys' := [(ka_2, (.object "java/lang/Object"))]) [0] rfl
  exact W.aret (v := .ref r_1) hx hb hr (Or.inr ⟨_, rfl⟩) (Or.inr ⟨_, rfl⟩) (fun t ht hW => ⟨⟨(), r_1, rfl, trivial, ⟨ka_2, by rw [ht]; exact hP9, va_K.moved hW.alike hK9, hD9⟩⟩, hS.F ht⟩) hS.2.2 dJx4a65c_grow_d5877_10
abbrev cJx4a65c_add_72be8 : ByteArray := prog_40_method_24_code
def yJx4a65c_add_72be8 : MethodName := ⟨RJx4a65c, "add", "(Ljava/lang/Object;[Ljava/lang/Object;I)V"⟩
theorem dJx4a65c_add_72be8_0 : decode cJx4a65c_add_72be8 0 = .ok (.iload_n 3, 1) := by decide +kernel
theorem dJx4a65c_add_72be8_1 : decode cJx4a65c_add_72be8 1 = .ok (.aload_n 2, 1) := by decide +kernel
theorem dJx4a65c_add_72be8_2 : decode cJx4a65c_add_72be8 2 = .ok (.arraylength, 1) := by decide +kernel
theorem dJx4a65c_add_72be8_3 : decode cJx4a65c_add_72be8 3 = .ok (.if_icmp .ne 8, 3) := by decide +kernel
theorem dJx4a65c_add_72be8_6 : decode cJx4a65c_add_72be8 6 = .ok (.aload_n 0, 1) := by decide +kernel
theorem dJx4a65c_add_72be8_7 : decode cJx4a65c_add_72be8 7 = .ok (.invokevirtual 129, 3) := by decide +kernel
theorem q_1540 : (Cond.code yJx4a65c_grow_d5877 cJx4a65c_grow_d5877 1 (some (.array (.object "java/lang/Object")))) ∈ tw := tw_in (i := 1540) (by decide +kernel) (by decide +kernel)
theorem q_1537 : (Cond.methodLink "java/util/ArrayList" 129 yJx4a65c_grow_d5877) ∈ tw := tw_in (i := 1537) (by decide +kernel) (by decide +kernel)
theorem q_1539 : (Cond.instanceMethod yJx4a65c_grow_d5877) ∈ tw := tw_in (i := 1539) (by decide +kernel) (by decide +kernel)
theorem qp_24 : (Cond.selects yJx4a65c_grow_d5877.cls yJx4a65c_grow_d5877 yJx4a65c_grow_d5877) ∈ tw := tw_inP (i := 24) (by decide +kernel) (by decide +kernel)
theorem dJx4a65c_add_72be8_10 : decode cJx4a65c_add_72be8 10 = .ok (.astore_n 2, 1) := by decide +kernel
theorem dJx4a65c_add_72be8_11 : decode cJx4a65c_add_72be8 11 = .ok (.aload_n 2, 1) := by decide +kernel
theorem dJx4a65c_add_72be8_12 : decode cJx4a65c_add_72be8 12 = .ok (.iload_n 3, 1) := by decide +kernel
theorem dJx4a65c_add_72be8_13 : decode cJx4a65c_add_72be8 13 = .ok (.aload_n 1, 1) := by decide +kernel
theorem dJx4a65c_add_72be8_14 : decode cJx4a65c_add_72be8 14 = .ok (.aastore, 1) := by decide +kernel
theorem q_2016 : (Cond.castable "NightfallVillageModel$Role" "java/lang/Object") ∈ tw := tw_in (i := 2016) (by decide +kernel) (by decide +kernel)
theorem dJx4a65c_add_72be8_15 : decode cJx4a65c_add_72be8 15 = .ok (.aload_n 0, 1) := by decide +kernel
theorem dJx4a65c_add_72be8_16 : decode cJx4a65c_add_72be8 16 = .ok (.iload_n 3, 1) := by decide +kernel
theorem dJx4a65c_add_72be8_17 : decode cJx4a65c_add_72be8 17 = .ok (.iconst 1, 1) := by decide +kernel
theorem dJx4a65c_add_72be8_18 : decode cJx4a65c_add_72be8 18 = .ok (.iadd, 1) := by decide +kernel
theorem dJx4a65c_add_72be8_19 : decode cJx4a65c_add_72be8 19 = .ok (.putfield 48, 3) := by decide +kernel
theorem dJx4a65c_add_72be8_22 : decode cJx4a65c_add_72be8 22 = .ok (.return_, 1) := by decide +kernel
set_option maxHeartbeats 4000000 in
set_option maxRecDepth 100000 in
theorem c_add3 (l : Launch) (hst : l.stackTraces = false) (tE : Nat) (adK adV : Nat → Nat) (dC : Nat → ClassId) (dI : Nat → Nat → Nat) (h0 : Nat) (x0 : Nat) (e1 : Int32) (e2 : Int32) (e3 : Int32) (e4 : Int32) (e5 : Int32) (e6 : Int32) (e7 : Int32) (sz : Nat) : Met l yJx4a65c_add_72be8 (Cond.code yJx4a65c_add_72be8 cJx4a65c_add_72be8 4 none :: tw) ({ frames := 3, cells := 1, slots := 10, locals := 57 }) (va_Pc [.ref h0, .ref x0, .ref tE, .int 0] (pre tE adK adV (dC, dI) [(h0, .inr (14, [.int 1, .ref tE, .int 0])), (x0, .inr (11, [.int e1, .int e2, .int e3, .int e4, .int e5, .int e6, .int e7]))] [] sz)) (va_Qv (fun (_ : Unit) => True) (fun (_ : Unit) (t : State) => ∃ (na : Nat), va_P (dC, dI) cls [(h0, .inr (14, [.int 1, .ref na, .int 1]))] t.heap ∧ va_K (dC, dI) cls [] t ∧ va_D (va_A [(h0, .inr (14, [.int 1, .ref tE, .int 0])), (x0, .inr (11, [.int e1, .int e2, .int e3, .int e4, .int e5, .int e6, .int e7]))] sz) [(h0, .inr (14, [.int 1, .ref na, .int 1]))]) (va_A [(h0, .inr (14, [.int 1, .ref tE, .int 0])), (x0, .inr (11, [.int e1, .int e2, .int e3, .int e4, .int e5, .int e6, .int e7]))] sz)) 1 10 (va_A [(h0, .inr (14, [.int 1, .ref tE, .int 0])), (x0, .inr (11, [.int e1, .int e2, .int e3, .int e4, .int e5, .int e6, .int e7]))] sz) := by
  refine Met.ofW (cc := cJx4a65c_add_72be8) (maxL := 4) (ret := none) (by decide) rfl ?_
  intro p e s m args below meth c s₁ B hml hv
  obtain ⟨rfl, hsz, hP, hK, hD0, ham⟩ := hv
  have hx := B.exec
  have hb := B.bytes
  have hr := B.returns
  have hts := atoms_spec B.pre
  have hq : ∀ w ∈ tw, w.before _ s = true := fun w h => hts w (List.mem_cons_of_mem _ h)
  have hown : s.vm.findClass RJx4a65c = some m.cls := findClass_of_methodNamed B.named
  have hlocks := B.notSynchronized
  subst hsz
  have hD := hD0.self (sz := s.heap.size)
  generalize hAe : va_A [(h0, .inr (14, [.int 1, .ref tE, .int 0])), (x0, .inr (11, [.int e1, .int e2, .int e3, .int e4, .int e5, .int e6, .int e7]))] s.heap.size = A at hD ham ⊢
  have hA : ∀ q : Nat, s.heap.size ≤ q → A q := fun q h => by rw [← hAe]; exact Or.inr h
  have hS : va_S A s.heap s.heap [] := va_S.rf
  have hP : va_P (dC, dI) cls [(h0, .inr (14, [.int 1, .ref tE, .int 0])), (x0, .inr (11, [.int e1, .int e2, .int e3, .int e4, .int e5, .int e6, .int e7]))] s.heap := hP
  have hl := lv_entry ([.ref h0, .ref x0, .ref tE, .int 0]) (n := 4) (Nat.le_of_ble_eq_true rfl)
  rw [lg_entry_eq]
  generalize (lg_sl ([.ref h0, .ref x0, .ref tE, .int 0]) ++ List.replicate (4 - (lg_sl ([.ref h0, .ref x0, .ref tE, .int 0])).length) Slot.unset).toArray = ls at hl ⊢
  have hl : lv_has ls 4 [(0, .ref h0), (1, .ref x0), (2, .ref tE), (3, .int 0)] := hl
  refine lv_iload_n hx hb dJx4a65c_add_72be8_0 rfl (lv_at hl 3 rfl) ?_
  refine lv_aload_n hx hb dJx4a65c_add_72be8_1 rfl (lv_at hl 2 rfl) ?_
  refine va_tlen hx hb ham.2.2.1.2 hS (v := 0) (by decide) dJx4a65c_add_72be8_2 ?_
  refine lv_icmp_ne (tgt := 11) hx hb dJx4a65c_add_72be8_3 (by decide) (fun c_1 => ?_) (fun c_1 => ?_)
  · exact absurd c_1 (by decide)
  · refine lv_aload_n hx hb dJx4a65c_add_72be8_6 rfl (lv_at hl 0 rfl) ?_
    have hPc := hP.sub (ws' := [(h0, .inr (14, [.int 1, .ref tE, .int 0]))]) [0] rfl
    have hKc := hK.sub (tys' := []) [] rfl
    have hDc := hD.sub (ws' := [(h0, .inr (14, [.int 1, .ref tE, .int 0]))]) [0] (by decide) rfl
    have hFc := va_free (wc := [(h0, .inr (14, [.int 1, .ref tE, .int 0]))]) hD hS hA [0] rfl
    refine va_callr (va_runV (As := []) (rest := []) ⟨hx, hb, hml, hown, hq⟩ (c_grow0 l hst tE adK adV dC dI h0 s.heap.size) (tcV 0 hq q_1540 q_15 q_1537 q_1539 qp_24 rfl rfl (by decide +kernel) ⟨Nat.le_of_ble_eq_true rfl, Nat.le_of_ble_eq_true rfl⟩) (pre.V (va_recv hK hP (ci := 14) (q0 := 0) rfl rfl) (pre.of hPc hDc hKc ham hS hFc)) rfl rfl hl.1 rfl (lv_room (Nat.le_of_ble_eq_true rfl)) dJx4a65c_add_72be8_7 ⟨Nat.le_of_ble_eq_true rfl, Nat.le_of_ble_eq_true rfl⟩) hS (fun q _ h => hFc q h) hFc (fun u r_2 t H1 locs ht hvm hw hB hz1 hk1 hS => ?_)
    obtain ⟨ka_3, hP1, hK1, hD1⟩ := hB
    rw [ht] at hP1
    have hK1 := va_K.moved hvm.symm hK1
    obtain ⟨hP, hD⟩ := va_join (wr := [(x0, .inr (11, [.int e1, .int e2, .int e3, .int e4, .int e5, .int e6, .int e7]))]) (w1 := [(h0, .inr (14, [.int 1, .ref r_2, .int 0])), (r_2, .inl (ka_3, 10, .inr (.inr (.inr (.inr (fun _ => none))))))]) (wc := [(h0, .inr (14, [.int 1, .ref tE, .int 0]))]) hP hD [0] [1] rfl rfl (by decide) (by decide) hk1 hFc hP1 hD1
    have hK := (hK.sub (tys' := []) [] rfl).app hK1
    generalize H1 = H at hP hS ⊢
    have hP : va_P (dC, dI) cls [(x0, .inr (11, [.int e1, .int e2, .int e3, .int e4, .int e5, .int e6, .int e7])), (h0, .inr (14, [.int 1, .ref r_2, .int 0])), (r_2, .inl (ka_3, 10, .inr (.inr (.inr (.inr (fun _ => none))))))] H := hP
    have hD : va_D A [(x0, .inr (11, [.int e1, .int e2, .int e3, .int e4, .int e5, .int e6, .int e7])), (h0, .inr (14, [.int 1, .ref r_2, .int 0])), (r_2, .inl (ka_3, 10, .inr (.inr (.inr (.inr (fun _ => none))))))] := hD
    have hK : va_K (dC, dI) cls [(ka_3, (.object "java/lang/Object"))] s := hK
    refine W.widen (k := 1) (n := 10) (Nat.le_of_ble_eq_true rfl) (Nat.le_of_ble_eq_true rfl) ?_
    refine lv_astore_n (lv' := [(2, .ref r_2), (0, .ref h0), (1, .ref x0), (3, .int 0)]) hx hb dJx4a65c_add_72be8_10 rfl hl (by decide) rfl (fun ls hl => ?_)
    refine lv_aload_n hx hb dJx4a65c_add_72be8_11 rfl (lv_at hl 0 rfl) ?_
    refine lv_iload_n hx hb dJx4a65c_add_72be8_12 rfl (lv_at hl 3 rfl) ?_
    refine lv_aload_n hx hb dJx4a65c_add_72be8_13 rfl (lv_at hl 2 rfl) ?_
    refine va_astqO hx hb hK hP hD hS 2 0 0 11 rfl rfl (va_Nw.of rfl (hq _ q_2016)) rfl rfl (by unfold vp_in; decide) dJx4a65c_add_72be8_14 (fun H locs hP hD hS => ?_)
    obtain ⟨f_4, ef_4⟩ : ∃ z, z = (va_up (fun _ => none) (0 : Int32).toNatClampNeg (some x0)) := ⟨_, rfl⟩
    have hP : va_P (dC, dI) cls [(x0, .inr (11, [.int e1, .int e2, .int e3, .int e4, .int e5, .int e6, .int e7])), (h0, .inr (14, [.int 1, .ref r_2, .int 0])), (r_2, .inl (ka_3, 10, .inr (.inr (.inr (.inr f_4)))))] H := by rw [ef_4]; exact hP
    have hD : va_D A [(x0, .inr (11, [.int e1, .int e2, .int e3, .int e4, .int e5, .int e6, .int e7])), (h0, .inr (14, [.int 1, .ref r_2, .int 0])), (r_2, .inl (ka_3, 10, .inr (.inr (.inr (.inr f_4)))))] := by rw [ef_4]; exact hD
    refine lv_aload_n hx hb dJx4a65c_add_72be8_15 rfl (lv_at hl 1 rfl) ?_
    refine lv_iload_n hx hb dJx4a65c_add_72be8_16 rfl (lv_at hl 3 rfl) ?_
    refine lv_iconst (v := 1) hx hb dJx4a65c_add_72be8_17 (by decide) ?_
    refine lv_iadd hx hb dJx4a65c_add_72be8_18 ?_
    refine W.eq (congrArg (fun z : Int32 => F0 m 19 ls (.int z :: [.ref h0])) (by decide : (0 + 1 : Int32) = 1)) ?_
    refine va_put (D := (dC, dI)) (ci := 14) (v := .int 1) (ty := .int) (C := RJx4a65c) (T := TJx4a65c) (N := 3) hx hb hq i_Jx4a65c tyJx4a65c tyJx4a65c_ok nmJx4a65c hown hK hP hD hS 1 rfl rfl 2 (by decide) (hq _ q_1288) (fun _ h9 => h9) rfl (by decide +kernel) rfl rfl (Nat.le_of_ble_eq_true rfl) dJx4a65c_add_72be8_19 (fun H locs hP hD hS => ?_)
    have hP : va_P (dC, dI) cls [(x0, .inr (11, [.int e1, .int e2, .int e3, .int e4, .int e5, .int e6, .int e7])), (h0, .inr (14, [.int 1, .ref r_2, .int 1])), (r_2, .inl (ka_3, 10, .inr (.inr (.inr (.inr f_4)))))] H := hP
    have hD : va_D A [(x0, .inr (11, [.int e1, .int e2, .int e3, .int e4, .int e5, .int e6, .int e7])), (h0, .inr (14, [.int 1, .ref r_2, .int 1])), (r_2, .inl (ka_3, 10, .inr (.inr (.inr (.inr f_4)))))] := hD
    refine W.widen (k := 1) (n := 10) (Nat.le_of_ble_eq_true rfl) (Nat.le_of_ble_eq_true rfl) ?_
    have hP9 := hP.sub (ws' := [(h0, .inr (14, [.int 1, .ref r_2, .int 1]))]) [1] rfl
    have hD9 := hD.sub (ws' := [(h0, .inr (14, [.int 1, .ref r_2, .int 1]))]) [1] (by decide) rfl
    have hK9 := hK.sub (tys' := []) [] rfl
    exact W.vret hx hb hr (fun t ht hW => ⟨⟨(), rfl, trivial, ⟨r_2, by rw [ht]; exact hP9, va_K.moved hW.alike hK9, hD9⟩⟩, hS.F ht⟩) hS.2.2 dJx4a65c_add_72be8_22
abbrev cJx4a65c_add_9ea2d : ByteArray := prog_40_method_25_code
def yJx4a65c_add_9ea2d : MethodName := ⟨RJx4a65c, "add", "(Ljava/lang/Object;)Z"⟩
theorem dJx4a65c_add_9ea2d_0 : decode cJx4a65c_add_9ea2d 0 = .ok (.aload_n 0, 1) := by decide +kernel
theorem dJx4a65c_add_9ea2d_1 : decode cJx4a65c_add_9ea2d 1 = .ok (.dup, 1) := by decide +kernel
theorem dJx4a65c_add_9ea2d_2 : decode cJx4a65c_add_9ea2d 2 = .ok (.getfield 63, 3) := by decide +kernel
theorem q_1292 : (Cond.fieldLink "java/util/ArrayList" 63 "java/util/ArrayList" "modCount" "I") ∈ tw := tw_in (i := 1292) (by decide +kernel) (by decide +kernel)
theorem q_1291 : (Cond.sameField "java/util/ArrayList" "java/util/AbstractList" "modCount" "I") ∈ tw := tw_in (i := 1291) (by decide +kernel) (by decide +kernel)
theorem dJx4a65c_add_9ea2d_5 : decode cJx4a65c_add_9ea2d 5 = .ok (.iconst 1, 1) := by decide +kernel
theorem dJx4a65c_add_9ea2d_6 : decode cJx4a65c_add_9ea2d 6 = .ok (.iadd, 1) := by decide +kernel
theorem dJx4a65c_add_9ea2d_7 : decode cJx4a65c_add_9ea2d 7 = .ok (.putfield 63, 3) := by decide +kernel
theorem dJx4a65c_add_9ea2d_10 : decode cJx4a65c_add_9ea2d 10 = .ok (.aload_n 0, 1) := by decide +kernel
theorem dJx4a65c_add_9ea2d_11 : decode cJx4a65c_add_9ea2d 11 = .ok (.aload_n 1, 1) := by decide +kernel
theorem dJx4a65c_add_9ea2d_12 : decode cJx4a65c_add_9ea2d 12 = .ok (.aload_n 0, 1) := by decide +kernel
theorem dJx4a65c_add_9ea2d_13 : decode cJx4a65c_add_9ea2d 13 = .ok (.getfield 9, 3) := by decide +kernel
theorem dJx4a65c_add_9ea2d_16 : decode cJx4a65c_add_9ea2d 16 = .ok (.aload_n 0, 1) := by decide +kernel
theorem dJx4a65c_add_9ea2d_17 : decode cJx4a65c_add_9ea2d 17 = .ok (.getfield 48, 3) := by decide +kernel
theorem dJx4a65c_add_9ea2d_20 : decode cJx4a65c_add_9ea2d 20 = .ok (.invokevirtual 131, 3) := by decide +kernel
theorem q_1536 : (Cond.code yJx4a65c_add_72be8 cJx4a65c_add_72be8 4 none) ∈ tw := tw_in (i := 1536) (by decide +kernel) (by decide +kernel)
theorem q_1533 : (Cond.methodLink "java/util/ArrayList" 131 yJx4a65c_add_72be8) ∈ tw := tw_in (i := 1533) (by decide +kernel) (by decide +kernel)
theorem q_1535 : (Cond.instanceMethod yJx4a65c_add_72be8) ∈ tw := tw_in (i := 1535) (by decide +kernel) (by decide +kernel)
theorem qp_23 : (Cond.selects yJx4a65c_add_72be8.cls yJx4a65c_add_72be8 yJx4a65c_add_72be8) ∈ tw := tw_inP (i := 23) (by decide +kernel) (by decide +kernel)
theorem dJx4a65c_add_9ea2d_23 : decode cJx4a65c_add_9ea2d 23 = .ok (.iconst 1, 1) := by decide +kernel
theorem dJx4a65c_add_9ea2d_24 : decode cJx4a65c_add_9ea2d 24 = .ok (.ireturn, 1) := by decide +kernel
set_option maxHeartbeats 4000000 in
set_option maxRecDepth 100000 in
theorem c_add1 (l : Launch) (hst : l.stackTraces = false) (tE : Nat) (adK adV : Nat → Nat) (dC : Nat → ClassId) (dI : Nat → Nat → Nat) (h0 : Nat) (x0 : Nat) (e1 : Int32) (e2 : Int32) (e3 : Int32) (e4 : Int32) (e5 : Int32) (e6 : Int32) (e7 : Int32) (sz : Nat) : Met l yJx4a65c_add_9ea2d (Cond.code yJx4a65c_add_9ea2d cJx4a65c_add_9ea2d 2 (some .boolean) :: tw) ({ frames := 4, cells := 1, slots := 10, locals := 80 }) (va_Pc [.ref h0, .ref x0] (pre tE adK adV (dC, dI) [(h0, .inr (14, [.int 0, .ref tE, .int 0])), (x0, .inr (11, [.int e1, .int e2, .int e3, .int e4, .int e5, .int e6, .int e7]))] [] sz)) (va_Qi (fun (r : Int32) (_ : Unit) => r = 1) (fun (_ : Unit) (t : State) => ∃ (na : Nat), va_P (dC, dI) cls [(h0, .inr (14, [.int 1, .ref na, .int 1]))] t.heap ∧ va_K (dC, dI) cls [] t ∧ va_D (va_A [(h0, .inr (14, [.int 0, .ref tE, .int 0])), (x0, .inr (11, [.int e1, .int e2, .int e3, .int e4, .int e5, .int e6, .int e7]))] sz) [(h0, .inr (14, [.int 1, .ref na, .int 1]))]) (va_A [(h0, .inr (14, [.int 0, .ref tE, .int 0])), (x0, .inr (11, [.int e1, .int e2, .int e3, .int e4, .int e5, .int e6, .int e7]))] sz)) 1 10 (va_A [(h0, .inr (14, [.int 0, .ref tE, .int 0])), (x0, .inr (11, [.int e1, .int e2, .int e3, .int e4, .int e5, .int e6, .int e7]))] sz) := by
  refine Met.ofW (cc := cJx4a65c_add_9ea2d) (maxL := 2) (ret := (some .boolean)) (by decide) rfl ?_
  intro p e s m args below meth c s₁ B hml hv
  obtain ⟨rfl, hsz, hP, hK, hD0, ham⟩ := hv
  have hx := B.exec
  have hb := B.bytes
  have hr := B.returns
  have hts := atoms_spec B.pre
  have hq : ∀ w ∈ tw, w.before _ s = true := fun w h => hts w (List.mem_cons_of_mem _ h)
  have hown : s.vm.findClass RJx4a65c = some m.cls := findClass_of_methodNamed B.named
  have hlocks := B.notSynchronized
  subst hsz
  have hD := hD0.self (sz := s.heap.size)
  generalize hAe : va_A [(h0, .inr (14, [.int 0, .ref tE, .int 0])), (x0, .inr (11, [.int e1, .int e2, .int e3, .int e4, .int e5, .int e6, .int e7]))] s.heap.size = A at hD ham ⊢
  have hA : ∀ q : Nat, s.heap.size ≤ q → A q := fun q h => by rw [← hAe]; exact Or.inr h
  have hS : va_S A s.heap s.heap [] := va_S.rf
  have hP : va_P (dC, dI) cls [(h0, .inr (14, [.int 0, .ref tE, .int 0])), (x0, .inr (11, [.int e1, .int e2, .int e3, .int e4, .int e5, .int e6, .int e7]))] s.heap := hP
  have hl := lv_entry ([.ref h0, .ref x0]) (n := 2) (Nat.le_of_ble_eq_true rfl)
  rw [lg_entry_eq]
  generalize (lg_sl ([.ref h0, .ref x0]) ++ List.replicate (2 - (lg_sl ([.ref h0, .ref x0])).length) Slot.unset).toArray = ls at hl ⊢
  have hl : lv_has ls 2 [(0, .ref h0), (1, .ref x0)] := hl
  refine lv_aload_n hx hb dJx4a65c_add_9ea2d_0 rfl (lv_at hl 0 rfl) ?_
  refine lv_dup hx hb dJx4a65c_add_9ea2d_1 rfl ?_
  refine va_get (D := (dC, dI)) (ci := 14) (v := .int 0) (C := RJx4a65c) (T := TJx4a65c) (N := 3) hx hb hq i_Jx4a65c hown hK hP 0 rfl rfl 0 (by decide) (hq _ q_1292) (fun x9 h9 => u_same (hq _ q_1291) x9 h9) rfl dJx4a65c_add_9ea2d_2 ?_
  refine lv_iconst (v := 1) hx hb dJx4a65c_add_9ea2d_5 (by decide) ?_
  refine lv_iadd hx hb dJx4a65c_add_9ea2d_6 ?_
  refine W.eq (congrArg (fun z : Int32 => F0 m 7 ls (.int z :: [.ref h0])) (by decide : (0 + 1 : Int32) = 1)) ?_
  refine va_put (D := (dC, dI)) (ci := 14) (v := .int 1) (ty := .int) (C := RJx4a65c) (T := TJx4a65c) (N := 3) hx hb hq i_Jx4a65c tyJx4a65c tyJx4a65c_ok nmJx4a65c hown hK hP hD hS 0 rfl rfl 0 (by decide) (hq _ q_1292) (fun x9 h9 => u_same (hq _ q_1291) x9 h9) rfl (by decide +kernel) rfl rfl (Nat.le_of_ble_eq_true rfl) dJx4a65c_add_9ea2d_7 (fun H locs hP hD hS => ?_)
  have hP : va_P (dC, dI) cls [(h0, .inr (14, [.int 1, .ref tE, .int 0])), (x0, .inr (11, [.int e1, .int e2, .int e3, .int e4, .int e5, .int e6, .int e7]))] H := hP
  have hD : va_D A [(h0, .inr (14, [.int 1, .ref tE, .int 0])), (x0, .inr (11, [.int e1, .int e2, .int e3, .int e4, .int e5, .int e6, .int e7]))] := hD
  refine lv_aload_n hx hb dJx4a65c_add_9ea2d_10 rfl (lv_at hl 0 rfl) ?_
  refine lv_aload_n hx hb dJx4a65c_add_9ea2d_11 rfl (lv_at hl 1 rfl) ?_
  refine lv_aload_n hx hb dJx4a65c_add_9ea2d_12 rfl (lv_at hl 0 rfl) ?_
  refine va_get (D := (dC, dI)) (ci := 14) (v := .ref tE) (C := RJx4a65c) (T := TJx4a65c) (N := 3) hx hb hq i_Jx4a65c hown hK hP 0 rfl rfl 1 (by decide) (hq _ q_1285) (fun _ h9 => h9) rfl dJx4a65c_add_9ea2d_13 ?_
  refine lv_aload_n hx hb dJx4a65c_add_9ea2d_16 rfl (lv_at hl 0 rfl) ?_
  refine va_get (D := (dC, dI)) (ci := 14) (v := .int 0) (C := RJx4a65c) (T := TJx4a65c) (N := 3) hx hb hq i_Jx4a65c hown hK hP 0 rfl rfl 2 (by decide) (hq _ q_1288) (fun _ h9 => h9) rfl dJx4a65c_add_9ea2d_17 ?_
  have hPc := hP.sub (ws' := [(h0, .inr (14, [.int 1, .ref tE, .int 0])), (x0, .inr (11, [.int e1, .int e2, .int e3, .int e4, .int e5, .int e6, .int e7]))]) [0, 1] rfl
  have hKc := hK.sub (tys' := []) [] rfl
  have hDc := hD.sub (ws' := [(h0, .inr (14, [.int 1, .ref tE, .int 0])), (x0, .inr (11, [.int e1, .int e2, .int e3, .int e4, .int e5, .int e6, .int e7]))]) [0, 1] (by decide) rfl
  have hFc := va_free (wc := [(h0, .inr (14, [.int 1, .ref tE, .int 0])), (x0, .inr (11, [.int e1, .int e2, .int e3, .int e4, .int e5, .int e6, .int e7]))]) hD hS hA [0, 1] rfl
  refine va_callv (va_runV (As := [.ref x0, .ref tE, .int 0]) (rest := []) ⟨hx, hb, hml, hown, hq⟩ (c_add3 l hst tE adK adV dC dI h0 x0 e1 e2 e3 e4 e5 e6 e7 H.size) (tcV 3 hq q_1536 q_15 q_1533 q_1535 qp_23 rfl rfl (by decide +kernel) ⟨Nat.le_of_ble_eq_true rfl, Nat.le_of_ble_eq_true rfl⟩) (pre.V (va_recv hK hP (ci := 14) (q0 := 0) rfl rfl) (pre.of hPc hDc hKc ham hS hFc)) rfl rfl hl.1 rfl (lv_room (Nat.le_of_ble_eq_true rfl)) dJx4a65c_add_9ea2d_20 ⟨Nat.le_of_ble_eq_true rfl, Nat.le_of_ble_eq_true rfl⟩) hS (fun q _ h => hFc q h) hFc (fun u t H1 locs ht hvm hw hB hz1 hk1 hS => ?_)
  obtain ⟨na_2, hP1, hK1, hD1⟩ := hB
  rw [ht] at hP1
  have hK1 := va_K.moved hvm.symm hK1
  obtain ⟨hP, hD⟩ := va_join (wr := []) (w1 := [(h0, .inr (14, [.int 1, .ref na_2, .int 1]))]) (wc := [(h0, .inr (14, [.int 1, .ref tE, .int 0])), (x0, .inr (11, [.int e1, .int e2, .int e3, .int e4, .int e5, .int e6, .int e7]))]) hP hD [0, 1] [] rfl rfl (by decide) (by decide) hk1 hFc hP1 hD1
  have hK := (hK.sub (tys' := []) [] rfl).app hK1
  generalize H1 = H at hP hS ⊢
  have hP : va_P (dC, dI) cls [(h0, .inr (14, [.int 1, .ref na_2, .int 1]))] H := hP
  have hD : va_D A [(h0, .inr (14, [.int 1, .ref na_2, .int 1]))] := hD
  have hK : va_K (dC, dI) cls [] s := hK
  refine W.widen (k := 1) (n := 10) (Nat.le_of_ble_eq_true rfl) (Nat.le_of_ble_eq_true rfl) ?_
  refine lv_iconst (v := 1) hx hb dJx4a65c_add_9ea2d_23 (by decide) ?_
  refine W.widen (k := 1) (n := 10) (Nat.le_of_ble_eq_true rfl) (Nat.le_of_ble_eq_true rfl) ?_
  have hP9 := hP.sub (ws' := [(h0, .inr (14, [.int 1, .ref na_2, .int 1]))]) [0] rfl
  have hD9 := hD.sub (ws' := [(h0, .inr (14, [.int 1, .ref na_2, .int 1]))]) [0] (by decide) rfl
  have hK9 := hK.sub (tys' := []) [] rfl
  exact W.zret (v := 1) hx hb hr (by decide) (fun t ht hW => ⟨⟨1, (), rfl, rfl, ⟨na_2, by rw [ht]; exact hP9, va_K.moved hW.alike hK9, hD9⟩⟩, hS.F ht⟩) hS.2.2 dJx4a65c_add_9ea2d_24
abbrev cX11_init : ByteArray := prog_14_method_1_code
def yX11_init : MethodName := ⟨RX11, "<init>", "(CCIZZZI)V"⟩
theorem dX11_init_0 : decode cX11_init 0 = .ok (.aload_n 0, 1) := by decide +kernel
theorem dX11_init_1 : decode cX11_init 1 = .ok (.invokespecial 1, 3) := by decide +kernel
theorem q_1494 : (Cond.methodLink "NightfallVillageModel$Role" 1 objectInit) ∈ tw := tw_in (i := 1494) (by decide +kernel) (by decide +kernel)
theorem dX11_init_4 : decode cX11_init 4 = .ok (.aload_n 0, 1) := by decide +kernel
theorem dX11_init_5 : decode cX11_init 5 = .ok (.iload_n 1, 1) := by decide +kernel
theorem dX11_init_6 : decode cX11_init 6 = .ok (.putfield 7, 3) := by decide +kernel
theorem q_1495 : (Cond.fieldLink "NightfallVillageModel$Role" 7 "NightfallVillageModel$Role" "side" "C") ∈ tw := tw_in (i := 1495) (by decide +kernel) (by decide +kernel)
theorem dX11_init_9 : decode cX11_init 9 = .ok (.aload_n 0, 1) := by decide +kernel
theorem dX11_init_10 : decode cX11_init 10 = .ok (.iload_n 2, 1) := by decide +kernel
theorem dX11_init_11 : decode cX11_init 11 = .ok (.putfield 13, 3) := by decide +kernel
theorem q_1497 : (Cond.fieldLink "NightfallVillageModel$Role" 13 "NightfallVillageModel$Role" "act" "C") ∈ tw := tw_in (i := 1497) (by decide +kernel) (by decide +kernel)
theorem dX11_init_14 : decode cX11_init 14 = .ok (.aload_n 0, 1) := by decide +kernel
theorem dX11_init_15 : decode cX11_init 15 = .ok (.iload_n 3, 1) := by decide +kernel
theorem dX11_init_16 : decode cX11_init 16 = .ok (.putfield 16, 3) := by decide +kernel
theorem q_1499 : (Cond.fieldLink "NightfallVillageModel$Role" 16 "NightfallVillageModel$Role" "weight" "I") ∈ tw := tw_in (i := 1499) (by decide +kernel) (by decide +kernel)
theorem dX11_init_19 : decode cX11_init 19 = .ok (.aload_n 0, 1) := by decide +kernel
theorem dX11_init_20 : decode cX11_init 20 = .ok (.iload 4, 2) := by decide +kernel
theorem dX11_init_22 : decode cX11_init 22 = .ok (.putfield 20, 3) := by decide +kernel
theorem q_1501 : (Cond.fieldLink "NightfallVillageModel$Role" 20 "NightfallVillageModel$Role" "isOnce" "Z") ∈ tw := tw_in (i := 1501) (by decide +kernel) (by decide +kernel)
theorem dX11_init_25 : decode cX11_init 25 = .ok (.aload_n 0, 1) := by decide +kernel
theorem dX11_init_26 : decode cX11_init 26 = .ok (.iload 5, 2) := by decide +kernel
theorem dX11_init_28 : decode cX11_init 28 = .ok (.putfield 24, 3) := by decide +kernel
theorem q_1503 : (Cond.fieldLink "NightfallVillageModel$Role" 24 "NightfallVillageModel$Role" "isFool" "Z") ∈ tw := tw_in (i := 1503) (by decide +kernel) (by decide +kernel)
theorem dX11_init_31 : decode cX11_init 31 = .ok (.aload_n 0, 1) := by decide +kernel
theorem dX11_init_32 : decode cX11_init 32 = .ok (.iload 6, 2) := by decide +kernel
theorem dX11_init_34 : decode cX11_init 34 = .ok (.putfield 27, 3) := by decide +kernel
theorem q_1505 : (Cond.fieldLink "NightfallVillageModel$Role" 27 "NightfallVillageModel$Role" "isHunter" "Z") ∈ tw := tw_in (i := 1505) (by decide +kernel) (by decide +kernel)
theorem dX11_init_37 : decode cX11_init 37 = .ok (.aload_n 0, 1) := by decide +kernel
theorem dX11_init_38 : decode cX11_init 38 = .ok (.iload 7, 2) := by decide +kernel
theorem dX11_init_40 : decode cX11_init 40 = .ok (.putfield 30, 3) := by decide +kernel
theorem q_1507 : (Cond.fieldLink "NightfallVillageModel$Role" 30 "NightfallVillageModel$Role" "seems" "I") ∈ tw := tw_in (i := 1507) (by decide +kernel) (by decide +kernel)
theorem dX11_init_43 : decode cX11_init 43 = .ok (.return_, 1) := by decide +kernel
set_option maxHeartbeats 4000000 in
set_option maxRecDepth 100000 in
theorem c_Role_init (l : Launch) (hst : l.stackTraces = false) (tE : Nat) (adK adV : Nat → Nat) (dC : Nat → ClassId) (dI : Nat → Nat → Nat) (h0 : Nat) (p1 : Int32) (p2 : Int32) (p3 : Int32) (p4 : Int32) (p5 : Int32) (p6 : Int32) (p7 : Int32) (n1 : narrow .char (.int p1) = .int p1 ∧ fits .char (.int p1) = true) (n2 : narrow .char (.int p2) = .int p2 ∧ fits .char (.int p2) = true) (n4 : narrow .boolean (.int p4) = .int p4 ∧ fits .boolean (.int p4) = true) (n5 : narrow .boolean (.int p5) = .int p5 ∧ fits .boolean (.int p5) = true) (n6 : narrow .boolean (.int p6) = .int p6 ∧ fits .boolean (.int p6) = true) (sz : Nat) : Met l yX11_init (Cond.code yX11_init cX11_init 8 none :: tw) ({ frames := 1, cells := 0, slots := 0, locals := 12 }) (va_Pc [.ref h0, .int p1, .int p2, .int p3, .int p4, .int p5, .int p6, .int p7] (pre tE adK adV (dC, dI) [(h0, .inr (11, [.int 0, .int 0, .int 0, .int 0, .int 0, .int 0, .int 0]))] [] sz)) (va_Qv (fun (_ : Unit) => True) (fun (_ : Unit) (t : State) => va_P (dC, dI) cls [(h0, .inr (11, [.int p1, .int p2, .int p3, .int p4, .int p5, .int p6, .int p7]))] t.heap ∧ va_K (dC, dI) cls [] t ∧ va_D (va_A [(h0, .inr (11, [.int 0, .int 0, .int 0, .int 0, .int 0, .int 0, .int 0]))] sz) [(h0, .inr (11, [.int p1, .int p2, .int p3, .int p4, .int p5, .int p6, .int p7]))]) (va_A [(h0, .inr (11, [.int 0, .int 0, .int 0, .int 0, .int 0, .int 0, .int 0]))] sz)) 0 0 (va_A [(h0, .inr (11, [.int 0, .int 0, .int 0, .int 0, .int 0, .int 0, .int 0]))] sz) := by
  refine Met.ofW (cc := cX11_init) (maxL := 8) (ret := none) (by decide) rfl ?_
  intro p e s m args below meth c s₁ B hml hv
  obtain ⟨rfl, hsz, hP, hK, hD0, ham⟩ := hv
  have hx := B.exec
  have hb := B.bytes
  have hr := B.returns
  have hts := atoms_spec B.pre
  have hq : ∀ w ∈ tw, w.before _ s = true := fun w h => hts w (List.mem_cons_of_mem _ h)
  have hown : s.vm.findClass RX11 = some m.cls := findClass_of_methodNamed B.named
  have hlocks := B.notSynchronized
  have hin : meth.name = "<init>" := (name_of_methodNamed B.named B.method).1
  subst hsz
  have hD := hD0.self (sz := s.heap.size)
  generalize hAe : va_A [(h0, .inr (11, [.int 0, .int 0, .int 0, .int 0, .int 0, .int 0, .int 0]))] s.heap.size = A at hD ham ⊢
  have hA : ∀ q : Nat, s.heap.size ≤ q → A q := fun q h => by rw [← hAe]; exact Or.inr h
  have hS : va_S A s.heap s.heap [] := va_S.rf
  have hP : va_P (dC, dI) cls [(h0, .inr (11, [.int 0, .int 0, .int 0, .int 0, .int 0, .int 0, .int 0]))] s.heap := hP
  have hl := lv_entry ([.ref h0, .int p1, .int p2, .int p3, .int p4, .int p5, .int p6, .int p7]) (n := 8) (Nat.le_of_ble_eq_true rfl)
  rw [lg_entry_eq]
  generalize (lg_sl ([.ref h0, .int p1, .int p2, .int p3, .int p4, .int p5, .int p6, .int p7]) ++ List.replicate (8 - (lg_sl ([.ref h0, .int p1, .int p2, .int p3, .int p4, .int p5, .int p6, .int p7])).length) Slot.unset).toArray = ls at hl ⊢
  have hl : lv_has ls 8 [(0, .ref h0), (1, .int p1), (2, .int p2), (3, .int p3), (4, .int p4), (5, .int p5), (6, .int p6), (7, .int p7)] := hl
  refine lv_aload_n hx hb dX11_init_0 rfl (lv_at hl 0 rfl) ?_
  refine W.objInit hx hb hown (hq _ q_1494) (hq _ q_45) (hq _ q_46) rfl (by rw [hml]; exact hl.1) rfl dX11_init_1 (Nat.le_of_ble_eq_true rfl) (Nat.le_of_ble_eq_true rfl) ?_
  refine W.eq (g2 := F0 m 4 ls []) rfl ?_
  refine lv_aload_n hx hb dX11_init_4 rfl (lv_at hl 0 rfl) ?_
  refine lv_iload_n hx hb dX11_init_5 rfl (lv_at hl 1 rfl) ?_
  refine va_putF (D := (dC, dI)) (ci := 11) (v := .int p1) (ty := .char) (C := RX11) (T := TX11) (N := 7) hx hb hq i_X11 tyX11 tyX11_ok nmX11 hown hK hP hD hS 0 rfl rfl 0 (by decide) (hq _ q_1495) (fun _ h9 => h9) rfl hin rfl (by decide +kernel) (by exact n1.1) (by exact n1.2) (Nat.le_of_ble_eq_true rfl) dX11_init_6 (fun H locs hP hD hS => ?_)
  have hP : va_P (dC, dI) cls [(h0, .inr (11, [.int p1, .int 0, .int 0, .int 0, .int 0, .int 0, .int 0]))] H := hP
  have hD : va_D A [(h0, .inr (11, [.int p1, .int 0, .int 0, .int 0, .int 0, .int 0, .int 0]))] := hD
  refine lv_aload_n hx hb dX11_init_9 rfl (lv_at hl 0 rfl) ?_
  refine lv_iload_n hx hb dX11_init_10 rfl (lv_at hl 2 rfl) ?_
  refine va_putF (D := (dC, dI)) (ci := 11) (v := .int p2) (ty := .char) (C := RX11) (T := TX11) (N := 7) hx hb hq i_X11 tyX11 tyX11_ok nmX11 hown hK hP hD hS 0 rfl rfl 1 (by decide) (hq _ q_1497) (fun _ h9 => h9) rfl hin rfl (by decide +kernel) (by exact n2.1) (by exact n2.2) (Nat.le_of_ble_eq_true rfl) dX11_init_11 (fun H locs hP hD hS => ?_)
  have hP : va_P (dC, dI) cls [(h0, .inr (11, [.int p1, .int p2, .int 0, .int 0, .int 0, .int 0, .int 0]))] H := hP
  have hD : va_D A [(h0, .inr (11, [.int p1, .int p2, .int 0, .int 0, .int 0, .int 0, .int 0]))] := hD
  refine lv_aload_n hx hb dX11_init_14 rfl (lv_at hl 0 rfl) ?_
  refine lv_iload_n hx hb dX11_init_15 rfl (lv_at hl 3 rfl) ?_
  refine va_putF (D := (dC, dI)) (ci := 11) (v := .int p3) (ty := .int) (C := RX11) (T := TX11) (N := 7) hx hb hq i_X11 tyX11 tyX11_ok nmX11 hown hK hP hD hS 0 rfl rfl 2 (by decide) (hq _ q_1499) (fun _ h9 => h9) rfl hin rfl (by decide +kernel) rfl rfl (Nat.le_of_ble_eq_true rfl) dX11_init_16 (fun H locs hP hD hS => ?_)
  have hP : va_P (dC, dI) cls [(h0, .inr (11, [.int p1, .int p2, .int p3, .int 0, .int 0, .int 0, .int 0]))] H := hP
  have hD : va_D A [(h0, .inr (11, [.int p1, .int p2, .int p3, .int 0, .int 0, .int 0, .int 0]))] := hD
  refine lv_aload_n hx hb dX11_init_19 rfl (lv_at hl 0 rfl) ?_
  refine lv_iload hx hb dX11_init_20 (lv_at hl 4 rfl) ?_
  refine va_putF (D := (dC, dI)) (ci := 11) (v := .int p4) (ty := .boolean) (C := RX11) (T := TX11) (N := 7) hx hb hq i_X11 tyX11 tyX11_ok nmX11 hown hK hP hD hS 0 rfl rfl 3 (by decide) (hq _ q_1501) (fun _ h9 => h9) rfl hin rfl (by decide +kernel) (by exact n4.1) (by exact n4.2) (Nat.le_of_ble_eq_true rfl) dX11_init_22 (fun H locs hP hD hS => ?_)
  have hP : va_P (dC, dI) cls [(h0, .inr (11, [.int p1, .int p2, .int p3, .int p4, .int 0, .int 0, .int 0]))] H := hP
  have hD : va_D A [(h0, .inr (11, [.int p1, .int p2, .int p3, .int p4, .int 0, .int 0, .int 0]))] := hD
  refine lv_aload_n hx hb dX11_init_25 rfl (lv_at hl 0 rfl) ?_
  refine lv_iload hx hb dX11_init_26 (lv_at hl 5 rfl) ?_
  refine va_putF (D := (dC, dI)) (ci := 11) (v := .int p5) (ty := .boolean) (C := RX11) (T := TX11) (N := 7) hx hb hq i_X11 tyX11 tyX11_ok nmX11 hown hK hP hD hS 0 rfl rfl 4 (by decide) (hq _ q_1503) (fun _ h9 => h9) rfl hin rfl (by decide +kernel) (by exact n5.1) (by exact n5.2) (Nat.le_of_ble_eq_true rfl) dX11_init_28 (fun H locs hP hD hS => ?_)
  have hP : va_P (dC, dI) cls [(h0, .inr (11, [.int p1, .int p2, .int p3, .int p4, .int p5, .int 0, .int 0]))] H := hP
  have hD : va_D A [(h0, .inr (11, [.int p1, .int p2, .int p3, .int p4, .int p5, .int 0, .int 0]))] := hD
  refine lv_aload_n hx hb dX11_init_31 rfl (lv_at hl 0 rfl) ?_
  refine lv_iload hx hb dX11_init_32 (lv_at hl 6 rfl) ?_
  refine va_putF (D := (dC, dI)) (ci := 11) (v := .int p6) (ty := .boolean) (C := RX11) (T := TX11) (N := 7) hx hb hq i_X11 tyX11 tyX11_ok nmX11 hown hK hP hD hS 0 rfl rfl 5 (by decide) (hq _ q_1505) (fun _ h9 => h9) rfl hin rfl (by decide +kernel) (by exact n6.1) (by exact n6.2) (Nat.le_of_ble_eq_true rfl) dX11_init_34 (fun H locs hP hD hS => ?_)
  have hP : va_P (dC, dI) cls [(h0, .inr (11, [.int p1, .int p2, .int p3, .int p4, .int p5, .int p6, .int 0]))] H := hP
  have hD : va_D A [(h0, .inr (11, [.int p1, .int p2, .int p3, .int p4, .int p5, .int p6, .int 0]))] := hD
  refine lv_aload_n hx hb dX11_init_37 rfl (lv_at hl 0 rfl) ?_
  refine lv_iload hx hb dX11_init_38 (lv_at hl 7 rfl) ?_
  refine va_put (D := (dC, dI)) (ci := 11) (v := .int p7) (ty := .int) (C := RX11) (T := TX11) (N := 7) hx hb hq i_X11 tyX11 tyX11_ok nmX11 hown hK hP hD hS 0 rfl rfl 6 (by decide) (hq _ q_1507) (fun _ h9 => h9) rfl (by decide +kernel) rfl rfl (Nat.le_of_ble_eq_true rfl) dX11_init_40 (fun H locs hP hD hS => ?_)
  have hP : va_P (dC, dI) cls [(h0, .inr (11, [.int p1, .int p2, .int p3, .int p4, .int p5, .int p6, .int p7]))] H := hP
  have hD : va_D A [(h0, .inr (11, [.int p1, .int p2, .int p3, .int p4, .int p5, .int p6, .int p7]))] := hD
  refine W.widen (k := 0) (n := 0) (Nat.le_of_ble_eq_true rfl) (Nat.le_of_ble_eq_true rfl) ?_
  have hP9 := hP.sub (ws' := [(h0, .inr (11, [.int p1, .int p2, .int p3, .int p4, .int p5, .int p6, .int p7]))]) [0] rfl
  have hD9 := hD.sub (ws' := [(h0, .inr (11, [.int p1, .int p2, .int p3, .int p4, .int p5, .int p6, .int p7]))]) [0] (by decide) rfl
  have hK9 := hK.sub (tys' := []) [] rfl
  exact W.vret hx hb hr (fun t ht hW => ⟨⟨(), rfl, trivial, ⟨by rw [ht]; exact hP9, va_K.moved hW.alike hK9, hD9⟩⟩, hS.F ht⟩) hS.2.2 dX11_init_43
abbrev cX12_role : ByteArray := prog_13_method_5_code
def yX12_role : MethodName := ⟨RX12, "role", "(CCIZZZ)I"⟩
theorem dX12_role_0 : decode cX12_role 0 = .ok (.aload_n 0, 1) := by decide +kernel
theorem dX12_role_1 : decode cX12_role 1 = .ok (.ldc 96, 2) := by decide +kernel
theorem sr_1387 : Cond.stringRef "NightfallVillageModel" 96 "vwl" ∈ tables_1 := List.mem_of_getElem? (i := 1387) (by decide +kernel)
theorem dX12_role_3 : decode cX12_role 3 = .ok (.iload_n 1, 1) := by decide +kernel
theorem dX12_role_4 : decode cX12_role 4 = .ok (.invokevirtual 98, 3) := by decide +kernel
theorem q_1391 : (Cond.code yJ0_indexOf_0f7a4 cJ0_indexOf_0f7a4 2 (some .int)) ∈ tw := tw_in (i := 1391) (by decide +kernel) (by decide +kernel)
theorem q_1388 : (Cond.methodLink "NightfallVillageModel" 98 yJ0_indexOf_0f7a4) ∈ tw := tw_in (i := 1388) (by decide +kernel) (by decide +kernel)
theorem q_1389 : (Cond.instanceMethod yJ0_indexOf_0f7a4) ∈ tw := tw_in (i := 1389) (by decide +kernel) (by decide +kernel)
theorem q_1390 : (Cond.selects "java/lang/String" yJ0_indexOf_0f7a4 yJ0_indexOf_0f7a4) ∈ tw := tw_in (i := 1390) (by decide +kernel) (by decide +kernel)
theorem dX12_role_7 : decode cX12_role 7 = .ok (.ifCond .lt 22, 3) := by decide +kernel
theorem dX12_role_10 : decode cX12_role 10 = .ok (.ldc 104, 2) := by decide +kernel
theorem sr_1474 : Cond.stringRef "NightfallVillageModel" 104 "-brdpsqk" ∈ tables_1 := List.mem_of_getElem? (i := 1474) (by decide +kernel)
theorem dX12_role_12 : decode cX12_role 12 = .ok (.iload_n 2, 1) := by decide +kernel
theorem dX12_role_13 : decode cX12_role 13 = .ok (.invokevirtual 98, 3) := by decide +kernel
theorem dX12_role_16 : decode cX12_role 16 = .ok (.ifCond .lt 13, 3) := by decide +kernel
theorem dX12_role_19 : decode cX12_role 19 = .ok (.iload_n 3, 1) := by decide +kernel
theorem dX12_role_20 : decode cX12_role 20 = .ok (.iconst 1, 1) := by decide +kernel
theorem dX12_role_21 : decode cX12_role 21 = .ok (.if_icmp .lt 8, 3) := by decide +kernel
theorem dX12_role_24 : decode cX12_role 24 = .ok (.iload_n 3, 1) := by decide +kernel
theorem dX12_role_25 : decode cX12_role 25 = .ok (.iconst 2, 1) := by decide +kernel
theorem dX12_role_26 : decode cX12_role 26 = .ok (.if_icmp .le 7, 3) := by decide +kernel
theorem dX12_role_33 : decode cX12_role 33 = .ok (.aload_n 0, 1) := by decide +kernel
theorem dX12_role_34 : decode cX12_role 34 = .ok (.getfield 106, 3) := by decide +kernel
theorem dX12_role_37 : decode cX12_role 37 = .ok (.ifCond .eq 7, 3) := by decide +kernel
theorem dX12_role_44 : decode cX12_role 44 = .ok (.aload_n 0, 1) := by decide +kernel
theorem dX12_role_45 : decode cX12_role 45 = .ok (.getfield 22, 3) := by decide +kernel
theorem dX12_role_48 : decode cX12_role 48 = .ok (.invokeinterface 7 1, 5) := by decide +kernel
theorem dX12_role_53 : decode cX12_role 53 = .ok (.bipush 8, 2) := by decide +kernel
theorem dX12_role_55 : decode cX12_role 55 = .ok (.if_icmp .ne 7, 3) := by decide +kernel
theorem dX12_role_62 : decode cX12_role 62 = .ok (.iconst 0, 1) := by decide +kernel
theorem dX12_role_63 : decode cX12_role 63 = .ok (.invokevirtual 110, 3) := by decide +kernel
theorem dX12_role_66 : decode cX12_role 66 = .ok (.ifCond .eq 5, 3) := by decide +kernel
theorem dX12_role_71 : decode cX12_role 71 = .ok (.aload_n 0, 1) := by decide +kernel
theorem dX12_role_72 : decode cX12_role 72 = .ok (.getfield 22, 3) := by decide +kernel
theorem dX12_role_75 : decode cX12_role 75 = .ok (.new 114, 3) := by decide +kernel
theorem q_1489 : (Cond.classLink "NightfallVillageModel" 114 "NightfallVillageModel$Role") ∈ tw := tw_in (i := 1489) (by decide +kernel) (by decide +kernel)
theorem q_1490 : (Cond.instantiable "NightfallVillageModel$Role" 7) ∈ tw := tw_in (i := 1490) (by decide +kernel) (by decide +kernel)
theorem q_29 : (Cond.initialized "NightfallVillageModel$Role") ∈ tw := tw_in (i := 29) (by decide +kernel) (by decide +kernel)
theorem dX12_role_78 : decode cX12_role 78 = .ok (.dup, 1) := by decide +kernel
theorem dX12_role_79 : decode cX12_role 79 = .ok (.iload_n 1, 1) := by decide +kernel
theorem dX12_role_80 : decode cX12_role 80 = .ok (.iload_n 2, 1) := by decide +kernel
theorem dX12_role_81 : decode cX12_role 81 = .ok (.iload_n 3, 1) := by decide +kernel
theorem dX12_role_82 : decode cX12_role 82 = .ok (.iload 4, 2) := by decide +kernel
theorem dX12_role_84 : decode cX12_role 84 = .ok (.iload 5, 2) := by decide +kernel
theorem dX12_role_86 : decode cX12_role 86 = .ok (.iload 6, 2) := by decide +kernel
theorem dX12_role_88 : decode cX12_role 88 = .ok (.aload_n 0, 1) := by decide +kernel
theorem dX12_role_89 : decode cX12_role 89 = .ok (.getfield 22, 3) := by decide +kernel
theorem dX12_role_92 : decode cX12_role 92 = .ok (.invokeinterface 7 1, 5) := by decide +kernel
theorem dX12_role_97 : decode cX12_role 97 = .ok (.invokespecial 116, 3) := by decide +kernel
theorem q_1493 : (Cond.code yX11_init cX11_init 8 none) ∈ tw := tw_in (i := 1493) (by decide +kernel) (by decide +kernel)
theorem q_1491 : (Cond.methodLink "NightfallVillageModel" 116 yX11_init) ∈ tw := tw_in (i := 1491) (by decide +kernel) (by decide +kernel)
theorem q_1492 : (Cond.instanceMethod yX11_init) ∈ tw := tw_in (i := 1492) (by decide +kernel) (by decide +kernel)
theorem dX12_role_100 : decode cX12_role 100 = .ok (.invokeinterface 119 2, 5) := by decide +kernel
theorem q_1532 : (Cond.code yJx4a65c_add_9ea2d cJx4a65c_add_9ea2d 2 (some .boolean)) ∈ tw := tw_in (i := 1532) (by decide +kernel) (by decide +kernel)
theorem q_1525 : (Cond.methodLink "NightfallVillageModel" 119 ⟨"java/util/List", "add", "(Ljava/lang/Object;)Z"⟩) ∈ tw := tw_in (i := 1525) (by decide +kernel) (by decide +kernel)
theorem q_1530 : (Cond.instanceMethod yJx4a65c_add_9ea2d) ∈ tw := tw_in (i := 1530) (by decide +kernel) (by decide +kernel)
theorem q_1528 : (Cond.selects "java/util/ArrayList" ⟨"java/util/List", "add", "(Ljava/lang/Object;)Z"⟩ yJx4a65c_add_9ea2d) ∈ tw := tw_in (i := 1528) (by decide +kernel) (by decide +kernel)
theorem q_1527 : (Cond.declares ⟨"java/util/List", "add", "(Ljava/lang/Object;)Z"⟩) ∈ tw := tw_in (i := 1527) (by decide +kernel) (by decide +kernel)
theorem q_1526 : (Cond.interfaceMethod "java/util/List" "java/util/List" "add" "(Ljava/lang/Object;)Z") ∈ tw := tw_in (i := 1526) (by decide +kernel) (by decide +kernel)
theorem q_1531 : (Cond.publicMethod yJx4a65c_add_9ea2d) ∈ tw := tw_in (i := 1531) (by decide +kernel) (by decide +kernel)
theorem q_1529 : (Cond.unhidden "java/util/ArrayList" "add" "(Ljava/lang/Object;)Z") ∈ tw := tw_in (i := 1529) (by decide +kernel) (by decide +kernel)
theorem dX12_role_105 : decode cX12_role 105 = .ok (.pop, 1) := by decide +kernel
theorem dX12_role_106 : decode cX12_role 106 = .ok (.aload_n 0, 1) := by decide +kernel
theorem dX12_role_107 : decode cX12_role 107 = .ok (.getfield 22, 3) := by decide +kernel
theorem dX12_role_110 : decode cX12_role 110 = .ok (.invokeinterface 7 1, 5) := by decide +kernel
theorem dX12_role_115 : decode cX12_role 115 = .ok (.iconst 1, 1) := by decide +kernel
theorem dX12_role_116 : decode cX12_role 116 = .ok (.isub, 1) := by decide +kernel
theorem dX12_role_117 : decode cX12_role 117 = .ok (.ireturn, 1) := by decide +kernel
set_option maxHeartbeats 4000000 in
set_option maxRecDepth 100000 in
theorem c_M_role_ok (l : Launch) (hst : l.stackTraces = false) (tE : Nat) (adK adV : Nat → Nat) (dC : Nat → ClassId) (dI : Nat → Nat → Nat) (m0 : Nat) (lr : Nat) (ld : Nat) (o1 : Nat) (o2 : Nat) (o3 : Nat) (o4 : Nat) (o5 : Nat) (o6 : Nat) (o7 : Nat) (o8 : Nat) (o9 : Nat) (o10 : Nat) (t1 : Nat) (t2 : Nat) (t3 : Nat) (t4 : Nat) (t5 : Nat) (th : Int32) (p1 : Int32) (p2 : Int32) (p3 : Int32) (p4 : Int32) (p5 : Int32) (p6 : Int32) (hok : okR p1 p2 p3) (b4 : p4 = 0 ∨ p4 = 1) (b5 : p5 = 0 ∨ p5 = 1) (b6 : p6 = 0 ∨ p6 = 1) (sz : Nat) : Met l yX12_role (Cond.code yX12_role cX12_role 7 (some .int) :: tw) ({ frames := 5, cells := 2, slots := 17, locals := 101 }) (va_Pc [.ref m0, .int p1, .int p2, .int p3, .int p4, .int p5, .int p6] (pre tE adK adV (dC, dI) [(m0, .inr (12, [.int th, .ref lr, .ref ld, .ref o1, .int (-1), .int (-1), .int 0, .ref o2, .ref o3, .ref o4, .ref o5, .ref o6, .ref o7, .ref o8, .ref o9, .ref o10, .int 0, .int 0, .null, .int 0, .int 45, .ref t1, .ref t2, .ref t3, .ref t4, .ref t5])), (lr, .inr (14, [.int 0, .ref tE, .int 0])), (ld, .inr (14, [.int 0, .ref tE, .int 0]))] [] sz)) (va_Qi (fun (r : Int32) (_ : Unit) => r = 0) (fun (_ : Unit) (t : State) => va_P (dC, dI) cls [(m0, .inr (12, [.int 0, .ref lr, .ref ld, .ref o1, .int (-1), .int (-1), .int 0, .ref o2, .ref o3, .ref o4, .ref o5, .ref o6, .ref o7, .ref o8, .ref o9, .ref o10, .int 0, .int 0, .null, .int 0, .int 45, .ref t1, .ref t2, .ref t3, .ref t4, .ref t5]))] t.heap ∧ va_K (dC, dI) cls [] t ∧ va_D (va_A [(m0, .inr (12, [.int th, .ref lr, .ref ld, .ref o1, .int (-1), .int (-1), .int 0, .ref o2, .ref o3, .ref o4, .ref o5, .ref o6, .ref o7, .ref o8, .ref o9, .ref o10, .int 0, .int 0, .null, .int 0, .int 45, .ref t1, .ref t2, .ref t3, .ref t4, .ref t5])), (lr, .inr (14, [.int 0, .ref tE, .int 0])), (ld, .inr (14, [.int 0, .ref tE, .int 0]))] sz) [(m0, .inr (12, [.int 0, .ref lr, .ref ld, .ref o1, .int (-1), .int (-1), .int 0, .ref o2, .ref o3, .ref o4, .ref o5, .ref o6, .ref o7, .ref o8, .ref o9, .ref o10, .int 0, .int 0, .null, .int 0, .int 45, .ref t1, .ref t2, .ref t3, .ref t4, .ref t5]))]) (va_A [(m0, .inr (12, [.int th, .ref lr, .ref ld, .ref o1, .int (-1), .int (-1), .int 0, .ref o2, .ref o3, .ref o4, .ref o5, .ref o6, .ref o7, .ref o8, .ref o9, .ref o10, .int 0, .int 0, .null, .int 0, .int 45, .ref t1, .ref t2, .ref t3, .ref t4, .ref t5])), (lr, .inr (14, [.int 0, .ref tE, .int 0])), (ld, .inr (14, [.int 0, .ref tE, .int 0]))] sz)) 2 17 (va_A [(m0, .inr (12, [.int th, .ref lr, .ref ld, .ref o1, .int (-1), .int (-1), .int 0, .ref o2, .ref o3, .ref o4, .ref o5, .ref o6, .ref o7, .ref o8, .ref o9, .ref o10, .int 0, .int 0, .null, .int 0, .int 45, .ref t1, .ref t2, .ref t3, .ref t4, .ref t5])), (lr, .inr (14, [.int 0, .ref tE, .int 0])), (ld, .inr (14, [.int 0, .ref tE, .int 0]))] sz) := by
  refine Met.ofW (cc := cX12_role) (maxL := 7) (ret := (some .int)) (by decide) rfl ?_
  intro p e s m args below meth c s₁ B hml hv
  obtain ⟨rfl, hsz, hP, hK, hD0, ham⟩ := hv
  have hx := B.exec
  have hb := B.bytes
  have hr := B.returns
  have hts := atoms_spec B.pre
  have hq : ∀ w ∈ tw, w.before _ s = true := fun w h => hts w (List.mem_cons_of_mem _ h)
  have hown : s.vm.findClass RX12 = some m.cls := findClass_of_methodNamed B.named
  have hlocks := B.notSynchronized
  subst hsz
  have hD := hD0.self (sz := s.heap.size)
  generalize hAe : va_A [(m0, .inr (12, [.int th, .ref lr, .ref ld, .ref o1, .int (-1), .int (-1), .int 0, .ref o2, .ref o3, .ref o4, .ref o5, .ref o6, .ref o7, .ref o8, .ref o9, .ref o10, .int 0, .int 0, .null, .int 0, .int 45, .ref t1, .ref t2, .ref t3, .ref t4, .ref t5])), (lr, .inr (14, [.int 0, .ref tE, .int 0])), (ld, .inr (14, [.int 0, .ref tE, .int 0]))] s.heap.size = A at hD ham ⊢
  have hA : ∀ q : Nat, s.heap.size ≤ q → A q := fun q h => by rw [← hAe]; exact Or.inr h
  have hS : va_S A s.heap s.heap [] := va_S.rf
  have hP : va_P (dC, dI) cls [(m0, .inr (12, [.int th, .ref lr, .ref ld, .ref o1, .int (-1), .int (-1), .int 0, .ref o2, .ref o3, .ref o4, .ref o5, .ref o6, .ref o7, .ref o8, .ref o9, .ref o10, .int 0, .int 0, .null, .int 0, .int 45, .ref t1, .ref t2, .ref t3, .ref t4, .ref t5])), (lr, .inr (14, [.int 0, .ref tE, .int 0])), (ld, .inr (14, [.int 0, .ref tE, .int 0]))] s.heap := hP
  have hl := lv_entry ([.ref m0, .int p1, .int p2, .int p3, .int p4, .int p5, .int p6]) (n := 7) (Nat.le_of_ble_eq_true rfl)
  rw [lg_entry_eq]
  generalize (lg_sl ([.ref m0, .int p1, .int p2, .int p3, .int p4, .int p5, .int p6]) ++ List.replicate (7 - (lg_sl ([.ref m0, .int p1, .int p2, .int p3, .int p4, .int p5, .int p6])).length) Slot.unset).toArray = ls at hl ⊢
  have hl : lv_has ls 7 [(0, .ref m0), (1, .int p1), (2, .int p2), (3, .int p3), (4, .int p4), (5, .int p5), (6, .int p6)] := hl
  refine lv_aload_n hx hb dX12_role_0 rfl (lv_at hl 0 rfl) ?_
  refine va_ldcS hx hb hown (ham.2.2.2.2.1.1 _ sr_1387) dX12_role_1 ?_
  refine lv_iload_n hx hb dX12_role_3 rfl (lv_at hl 1 rfl) ?_
  have hPc := hP.sub (ws' := []) [] rfl
  have hKc := hK.sub (tys' := []) [] rfl
  refine va_calli (va_runV (As := [.int p1]) (rest := [.ref m0]) ⟨hx, hb, hml, hown, hq⟩ (c_ix0 l hst tE adK adV dC dI p1 s.heap.size) (tcV 1 hq q_1391 q_23 q_1388 q_1389 q_1390 rfl rfl (by decide +kernel) ⟨Nat.le_of_ble_eq_true rfl, Nat.le_of_ble_eq_true rfl⟩) (preR.V (vk_recv ham.2.2.2.1.2 (i := 0) (by decide) hS) (preR.of hPc hKc ham hS hA)) rfl rfl hl.1 rfl (lv_room (Nat.le_of_ble_eq_true rfl)) dX12_role_4 ⟨Nat.le_of_ble_eq_true rfl, Nat.le_of_ble_eq_true rfl⟩) hS (fun q _ h => hA q (Nat.le_trans hS.1 h)) (fun q h => hA q (Nat.le_trans hS.1 h)) (fun r_1 u t H1 locs ht hvm hw hB hz1 hk1 hS => ?_)
  have hP : va_P (dC, dI) cls [(m0, .inr (12, [.int th, .ref lr, .ref ld, .ref o1, .int (-1), .int (-1), .int 0, .ref o2, .ref o3, .ref o4, .ref o5, .ref o6, .ref o7, .ref o8, .ref o9, .ref o10, .int 0, .int 0, .null, .int 0, .int 45, .ref t1, .ref t2, .ref t3, .ref t4, .ref t5])), (lr, .inr (14, [.int 0, .ref tE, .int 0])), (ld, .inr (14, [.int 0, .ref tE, .int 0]))] H1 := ro_keep hP hk1
  generalize H1 = H at hP hS ⊢
  refine W.widen (k := 0) (n := 0) (Nat.le_of_ble_eq_true rfl) (Nat.le_of_ble_eq_true rfl) ?_
  have er_1 : (r_1 < 0 ∧ ¬ okS p1) ∨ (¬ r_1 < 0 ∧ okS p1) := hw
  refine lv_if_lt (tgt := 29) hx hb dX12_role_7 (by decide) (fun c_2 => ?_) (fun c_2 => ?_)
  · exact (er_1.elim (fun z => z.2 hok.1) (fun z => z.1 c_2)).elim
  · refine va_ldcS hx hb hown (ham.2.2.2.2.1.2 _ sr_1474) dX12_role_10 ?_
    refine lv_iload_n hx hb dX12_role_12 rfl (lv_at hl 2 rfl) ?_
    have hPc := hP.sub (ws' := []) [] rfl
    have hKc := hK.sub (tys' := []) [] rfl
    refine va_calli (va_runV (As := [.int p2]) (rest := [.ref m0]) ⟨hx, hb, hml, hown, hq⟩ (c_ix1 l hst tE adK adV dC dI p2 H.size) (tcV 1 hq q_1391 q_23 q_1388 q_1389 q_1390 rfl rfl (by decide +kernel) ⟨Nat.le_of_ble_eq_true rfl, Nat.le_of_ble_eq_true rfl⟩) (preR.V (vk_recv ham.2.2.2.1.2 (i := 1) (by decide) hS) (preR.of hPc hKc ham hS hA)) rfl rfl hl.1 rfl (lv_room (Nat.le_of_ble_eq_true rfl)) dX12_role_13 ⟨Nat.le_of_ble_eq_true rfl, Nat.le_of_ble_eq_true rfl⟩) hS (fun q _ h => hA q (Nat.le_trans hS.1 h)) (fun q h => hA q (Nat.le_trans hS.1 h)) (fun r_3 u t H1 locs ht hvm hw hB hz1 hk1 hS => ?_)
    have hP : va_P (dC, dI) cls [(m0, .inr (12, [.int th, .ref lr, .ref ld, .ref o1, .int (-1), .int (-1), .int 0, .ref o2, .ref o3, .ref o4, .ref o5, .ref o6, .ref o7, .ref o8, .ref o9, .ref o10, .int 0, .int 0, .null, .int 0, .int 45, .ref t1, .ref t2, .ref t3, .ref t4, .ref t5])), (lr, .inr (14, [.int 0, .ref tE, .int 0])), (ld, .inr (14, [.int 0, .ref tE, .int 0]))] H1 := ro_keep hP hk1
    generalize H1 = H at hP hS ⊢
    refine W.widen (k := 0) (n := 0) (Nat.le_of_ble_eq_true rfl) (Nat.le_of_ble_eq_true rfl) ?_
    have er_3 : (r_3 < 0 ∧ ¬ okA p2) ∨ (¬ r_3 < 0 ∧ okA p2) := hw
    refine lv_if_lt (tgt := 29) hx hb dX12_role_16 (by decide) (fun c_4 => ?_) (fun c_4 => ?_)
    · exact (er_3.elim (fun z => z.2 hok.2.1) (fun z => z.1 c_4)).elim
    · refine lv_iload_n hx hb dX12_role_19 rfl (lv_at hl 3 rfl) ?_
      refine lv_iconst (v := 1) hx hb dX12_role_20 (by decide) ?_
      refine lv_icmp_lt (tgt := 29) hx hb dX12_role_21 (by decide) (fun c_5 => ?_) (fun c_5 => ?_)
      · exact absurd c_5 hok.2.2.1
      · refine lv_iload_n hx hb dX12_role_24 rfl (lv_at hl 3 rfl) ?_
        refine lv_iconst (v := 2) hx hb dX12_role_25 (by decide) ?_
        refine lv_icmp_le (tgt := 33) hx hb dX12_role_26 (by decide) (fun c_6 => ?_) (fun c_6 => ?_)
        · refine lv_aload_n hx hb dX12_role_33 rfl (lv_at hl 0 rfl) ?_
          refine va_get (D := (dC, dI)) (ci := 12) (v := .int 0) (C := RX12) (T := TX12) (N := 26) hx hb hq i_X12 hown hK hP 0 rfl rfl 6 (by decide) (hq _ q_1310) (fun _ h9 => h9) rfl dX12_role_34 ?_
          refine lv_if_eq (tgt := 44) hx hb dX12_role_37 (by decide) (fun c_7 => ?_) (fun c_7 => ?_)
          · refine lv_aload_n hx hb dX12_role_44 rfl (lv_at hl 0 rfl) ?_
            refine va_get (D := (dC, dI)) (ci := 12) (v := .ref lr) (C := RX12) (T := TX12) (N := 26) hx hb hq i_X12 hown hK hP 0 rfl rfl 1 (by decide) (hq _ q_1305) (fun _ h9 => h9) rfl dX12_role_45 ?_
            have hPc := hP.sub (ws' := [(lr, .inr (14, [.int 0, .ref tE, .int 0]))]) [1] rfl
            have hKc := hK.sub (tys' := []) [] rfl
            refine va_callFi (va_runF (hK.1 14 _ rfl).2 (As := []) (rest := [.ref m0]) ⟨hx, hb, hml, hown, hq⟩ (c_size0b l hst tE adK adV dC dI lr H.size) (tcF 0 hq q_1484 q_15 q_1476 q_1482 q_1480 q_1478 q_1477 q_1483 q_1481 q_1479 rfl rfl (by decide +kernel) ⟨Nat.le_of_ble_eq_true rfl, Nat.le_of_ble_eq_true rfl⟩) (preR.V (va_recv hK hP (ci := 14) (q0 := 1) rfl rfl) (preR.of hPc hKc ham hS hA)) rfl rfl hl.1 rfl (lv_room (Nat.le_of_ble_eq_true rfl)) dX12_role_48 ⟨Nat.le_of_ble_eq_true rfl, Nat.le_of_ble_eq_true rfl⟩) hS (fun q _ h => hA q (Nat.le_trans hS.1 h)) (fun q h => hA q (Nat.le_trans hS.1 h)) (fun r_8 u t H1 locs ht hvm hw hB hz1 hk1 hS => ?_)
            have hP : va_P (dC, dI) cls [(m0, .inr (12, [.int th, .ref lr, .ref ld, .ref o1, .int (-1), .int (-1), .int 0, .ref o2, .ref o3, .ref o4, .ref o5, .ref o6, .ref o7, .ref o8, .ref o9, .ref o10, .int 0, .int 0, .null, .int 0, .int 45, .ref t1, .ref t2, .ref t3, .ref t4, .ref t5])), (lr, .inr (14, [.int 0, .ref tE, .int 0])), (ld, .inr (14, [.int 0, .ref tE, .int 0]))] H1 := ro_keep hP hk1
            generalize H1 = H at hP hS ⊢
            refine W.widen (k := 0) (n := 0) (Nat.le_of_ble_eq_true rfl) (Nat.le_of_ble_eq_true rfl) ?_
            have hw : r_8 = 0 := hw
            subst hw
            refine lv_bipush (v := 8) hx hb dX12_role_53 (by decide) ?_
            refine lv_icmp_ne (tgt := 62) hx hb dX12_role_55 (by decide) (fun c_9 => ?_) (fun c_9 => ?_)
            · refine lv_iconst (v := 0) hx hb dX12_role_62 (by decide) ?_
              have hPc := hP.sub (ws' := [(m0, .inr (12, [.int th, .ref lr, .ref ld, .ref o1, .int (-1), .int (-1), .int 0, .ref o2, .ref o3, .ref o4, .ref o5, .ref o6, .ref o7, .ref o8, .ref o9, .ref o10, .int 0, .int 0, .null, .int 0, .int 45, .ref t1, .ref t2, .ref t3, .ref t4, .ref t5]))]) [0] rfl
              have hKc := hK.sub (tys' := []) [] rfl
              have hDc := hD.sub (ws' := [(m0, .inr (12, [.int th, .ref lr, .ref ld, .ref o1, .int (-1), .int (-1), .int 0, .ref o2, .ref o3, .ref o4, .ref o5, .ref o6, .ref o7, .ref o8, .ref o9, .ref o10, .int 0, .int 0, .null, .int 0, .int 45, .ref t1, .ref t2, .ref t3, .ref t4, .ref t5]))]) [0] (by decide) rfl
              have hFc := va_free (wc := [(m0, .inr (12, [.int th, .ref lr, .ref ld, .ref o1, .int (-1), .int (-1), .int 0, .ref o2, .ref o3, .ref o4, .ref o5, .ref o6, .ref o7, .ref o8, .ref o9, .ref o10, .int 0, .int 0, .null, .int 0, .int 45, .ref t1, .ref t2, .ref t3, .ref t4, .ref t5]))]) hD hS hA [0] rfl
              refine va_calli (va_runV (As := [.int 0]) (rest := []) ⟨hx, hb, hml, hown, hq⟩ (c_isWrong0 l hst tE adK adV dC dI m0 lr ld o1 o2 o3 o4 o5 o6 o7 o8 o9 o10 t1 t2 t3 t4 t5 th H.size) (tcV 1 hq q_1488 q_12 q_1485 q_1487 qp_22 rfl rfl (by decide +kernel) ⟨Nat.le_of_ble_eq_true rfl, Nat.le_of_ble_eq_true rfl⟩) (pre.V (va_recv hK hP (ci := 12) (q0 := 0) rfl rfl) (pre.of hPc hDc hKc ham hS hFc)) rfl rfl hl.1 rfl (lv_room (Nat.le_of_ble_eq_true rfl)) dX12_role_63 ⟨Nat.le_of_ble_eq_true rfl, Nat.le_of_ble_eq_true rfl⟩) hS (fun q _ h => hFc q h) hFc (fun r_10 u t H1 locs ht hvm hw hB hz1 hk1 hS => ?_)
              obtain ⟨hP1, hK1, hD1⟩ := hB
              rw [ht] at hP1
              have hK1 := va_K.moved hvm.symm hK1
              obtain ⟨hP, hD⟩ := va_join (wr := [(lr, .inr (14, [.int 0, .ref tE, .int 0])), (ld, .inr (14, [.int 0, .ref tE, .int 0]))]) (w1 := [(m0, .inr (12, [.int 0, .ref lr, .ref ld, .ref o1, .int (-1), .int (-1), .int 0, .ref o2, .ref o3, .ref o4, .ref o5, .ref o6, .ref o7, .ref o8, .ref o9, .ref o10, .int 0, .int 0, .null, .int 0, .int 45, .ref t1, .ref t2, .ref t3, .ref t4, .ref t5]))]) (wc := [(m0, .inr (12, [.int th, .ref lr, .ref ld, .ref o1, .int (-1), .int (-1), .int 0, .ref o2, .ref o3, .ref o4, .ref o5, .ref o6, .ref o7, .ref o8, .ref o9, .ref o10, .int 0, .int 0, .null, .int 0, .int 45, .ref t1, .ref t2, .ref t3, .ref t4, .ref t5]))]) hP hD [0] [1, 2] rfl rfl (by decide) (by decide) hk1 hFc hP1 hD1
              have hK := (hK.sub (tys' := []) [] rfl).app hK1
              generalize H1 = H at hP hS ⊢
              have hP : va_P (dC, dI) cls [(lr, .inr (14, [.int 0, .ref tE, .int 0])), (ld, .inr (14, [.int 0, .ref tE, .int 0])), (m0, .inr (12, [.int 0, .ref lr, .ref ld, .ref o1, .int (-1), .int (-1), .int 0, .ref o2, .ref o3, .ref o4, .ref o5, .ref o6, .ref o7, .ref o8, .ref o9, .ref o10, .int 0, .int 0, .null, .int 0, .int 45, .ref t1, .ref t2, .ref t3, .ref t4, .ref t5]))] H := hP
              have hD : va_D A [(lr, .inr (14, [.int 0, .ref tE, .int 0])), (ld, .inr (14, [.int 0, .ref tE, .int 0])), (m0, .inr (12, [.int 0, .ref lr, .ref ld, .ref o1, .int (-1), .int (-1), .int 0, .ref o2, .ref o3, .ref o4, .ref o5, .ref o6, .ref o7, .ref o8, .ref o9, .ref o10, .int 0, .int 0, .null, .int 0, .int 45, .ref t1, .ref t2, .ref t3, .ref t4, .ref t5]))] := hD
              have hK : va_K (dC, dI) cls [] s := hK
              refine W.widen (k := 0) (n := 0) (Nat.le_of_ble_eq_true rfl) (Nat.le_of_ble_eq_true rfl) ?_
              have hw : r_10 = 0 := hw
              subst hw
              refine lv_if_eq (tgt := 71) hx hb dX12_role_66 (by decide) (fun c_11 => ?_) (fun c_11 => ?_)
              · refine lv_aload_n hx hb dX12_role_71 rfl (lv_at hl 0 rfl) ?_
                refine va_get (D := (dC, dI)) (ci := 12) (v := .ref lr) (C := RX12) (T := TX12) (N := 26) hx hb hq i_X12 hown hK hP 2 rfl rfl 1 (by decide) (hq _ q_1305) (fun _ h9 => h9) rfl dX12_role_72 ?_
                refine va_new (ci := 11) (fs := [.int 0, .int 0, .int 0, .int 0, .int 0, .int 0, .int 0]) (C := RX11) (T := TX11) (N := 7) hx hb hq i_X11 tyX11 tyX11_ok hown (hq _ q_1489) (hq _ q_1490) (hq _ q_29) hK hP hD hS hA rfl (fun j hj => by rcases (show j = 0 ∨ j = 1 ∨ j = 2 ∨ j = 3 ∨ j = 4 ∨ j = 5 ∨ j = 6 by omega) with rfl | rfl | rfl | rfl | rfl | rfl | rfl <;> rfl) (Nat.le_of_ble_eq_true rfl) (Nat.le_of_ble_eq_true rfl) dX12_role_75 (fun a_12 H hP hD hS => ?_)
                have hP : va_P (dC, dI) cls [(lr, .inr (14, [.int 0, .ref tE, .int 0])), (ld, .inr (14, [.int 0, .ref tE, .int 0])), (m0, .inr (12, [.int 0, .ref lr, .ref ld, .ref o1, .int (-1), .int (-1), .int 0, .ref o2, .ref o3, .ref o4, .ref o5, .ref o6, .ref o7, .ref o8, .ref o9, .ref o10, .int 0, .int 0, .null, .int 0, .int 45, .ref t1, .ref t2, .ref t3, .ref t4, .ref t5])), (a_12, .inr (11, [.int 0, .int 0, .int 0, .int 0, .int 0, .int 0, .int 0]))] H := hP
                have hD : va_D A [(lr, .inr (14, [.int 0, .ref tE, .int 0])), (ld, .inr (14, [.int 0, .ref tE, .int 0])), (m0, .inr (12, [.int 0, .ref lr, .ref ld, .ref o1, .int (-1), .int (-1), .int 0, .ref o2, .ref o3, .ref o4, .ref o5, .ref o6, .ref o7, .ref o8, .ref o9, .ref o10, .int 0, .int 0, .null, .int 0, .int 45, .ref t1, .ref t2, .ref t3, .ref t4, .ref t5])), (a_12, .inr (11, [.int 0, .int 0, .int 0, .int 0, .int 0, .int 0, .int 0]))] := hD
                refine W.widen (k := 1) (n := 7) (Nat.le_of_ble_eq_true rfl) (Nat.le_of_ble_eq_true rfl) ?_
                refine lv_dup hx hb dX12_role_78 rfl ?_
                refine lv_iload_n hx hb dX12_role_79 rfl (lv_at hl 1 rfl) ?_
                refine lv_iload_n hx hb dX12_role_80 rfl (lv_at hl 2 rfl) ?_
                refine lv_iload_n hx hb dX12_role_81 rfl (lv_at hl 3 rfl) ?_
                refine lv_iload hx hb dX12_role_82 (lv_at hl 4 rfl) ?_
                refine lv_iload hx hb dX12_role_84 (lv_at hl 5 rfl) ?_
                refine lv_iload hx hb dX12_role_86 (lv_at hl 6 rfl) ?_
                refine lv_aload_n hx hb dX12_role_88 rfl (lv_at hl 0 rfl) ?_
                refine va_get (D := (dC, dI)) (ci := 12) (v := .ref lr) (C := RX12) (T := TX12) (N := 26) hx hb hq i_X12 hown hK hP 2 rfl rfl 1 (by decide) (hq _ q_1305) (fun _ h9 => h9) rfl dX12_role_89 ?_
                have hPc := hP.sub (ws' := [(lr, .inr (14, [.int 0, .ref tE, .int 0]))]) [0] rfl
                have hKc := hK.sub (tys' := []) [] rfl
                refine va_callFi (rw_runF16 (hK.1 14 _ rfl).2 (As := []) (rest := [.int p6, .int p5, .int p4, .int p3, .int p2, .int p1, .ref a_12, .ref a_12, .ref lr]) ⟨hx, hb, hml, hown, hq⟩ (c_size0b l hst tE adK adV dC dI lr H.size) (tcF 0 hq q_1484 q_15 q_1476 q_1482 q_1480 q_1478 q_1477 q_1483 q_1481 q_1479 rfl rfl (by decide +kernel) ⟨Nat.le_of_ble_eq_true rfl, Nat.le_of_ble_eq_true rfl⟩) (Nat.le_of_ble_eq_true rfl) (preR.V (va_recv hK hP (ci := 14) (q0 := 0) rfl rfl) (preR.of hPc hKc ham hS hA)) rfl rfl hl.1 rfl (lv_room16 (Nat.le_of_ble_eq_true rfl)) dX12_role_92 ⟨Nat.le_of_ble_eq_true rfl, Nat.le_of_ble_eq_true rfl⟩) hS (fun q _ h => hA q (Nat.le_trans hS.1 h)) (fun q h => hA q (Nat.le_trans hS.1 h)) (fun r_13 u t H1 locs ht hvm hw hB hz1 hk1 hS => ?_)
                have hP : va_P (dC, dI) cls [(lr, .inr (14, [.int 0, .ref tE, .int 0])), (ld, .inr (14, [.int 0, .ref tE, .int 0])), (m0, .inr (12, [.int 0, .ref lr, .ref ld, .ref o1, .int (-1), .int (-1), .int 0, .ref o2, .ref o3, .ref o4, .ref o5, .ref o6, .ref o7, .ref o8, .ref o9, .ref o10, .int 0, .int 0, .null, .int 0, .int 45, .ref t1, .ref t2, .ref t3, .ref t4, .ref t5])), (a_12, .inr (11, [.int 0, .int 0, .int 0, .int 0, .int 0, .int 0, .int 0]))] H1 := ro_keep hP hk1
                generalize H1 = H at hP hS ⊢
                refine W.widen (k := 1) (n := 7) (Nat.le_of_ble_eq_true rfl) (Nat.le_of_ble_eq_true rfl) ?_
                have hw : r_13 = 0 := hw
                subst hw
                have hPc := hP.sub (ws' := [(a_12, .inr (11, [.int 0, .int 0, .int 0, .int 0, .int 0, .int 0, .int 0]))]) [3] rfl
                have hKc := hK.sub (tys' := []) [] rfl
                have hDc := hD.sub (ws' := [(a_12, .inr (11, [.int 0, .int 0, .int 0, .int 0, .int 0, .int 0, .int 0]))]) [3] (by decide) rfl
                have hFc := va_free (wc := [(a_12, .inr (11, [.int 0, .int 0, .int 0, .int 0, .int 0, .int 0, .int 0]))]) hD hS hA [3] rfl
                refine va_callv (va_runI (As := [.int p1, .int p2, .int p3, .int p4, .int p5, .int p6, .int 0]) (rest := [.ref a_12, .ref lr]) ⟨hx, hb, hml, hown, hq⟩ (c_Role_init l hst tE adK adV dC dI a_12 p1 p2 p3 p4 p5 p6 0 (okS_nar hok.1) (okA_nar hok.2.1) (bool_nar b4) (bool_nar b5) (bool_nar b6) H.size) (tcI 7 hq q_1493 q_29 q_1491 q_1492 rfl rfl rfl (by decide +kernel) ⟨Nat.le_of_ble_eq_true rfl, Nat.le_of_ble_eq_true rfl⟩) (pre.S (pre.of hPc hDc hKc ham hS hFc)) rfl rfl hl.1 rfl (lv_room (Nat.le_of_ble_eq_true rfl)) dX12_role_97 ⟨Nat.le_of_ble_eq_true rfl, Nat.le_of_ble_eq_true rfl⟩) hS (fun q _ h => hFc q h) hFc (fun u t H1 locs ht hvm hw hB hz1 hk1 hS => ?_)
                obtain ⟨hP1, hK1, hD1⟩ := hB
                rw [ht] at hP1
                have hK1 := va_K.moved hvm.symm hK1
                obtain ⟨hP, hD⟩ := va_join (wr := [(lr, .inr (14, [.int 0, .ref tE, .int 0])), (ld, .inr (14, [.int 0, .ref tE, .int 0])), (m0, .inr (12, [.int 0, .ref lr, .ref ld, .ref o1, .int (-1), .int (-1), .int 0, .ref o2, .ref o3, .ref o4, .ref o5, .ref o6, .ref o7, .ref o8, .ref o9, .ref o10, .int 0, .int 0, .null, .int 0, .int 45, .ref t1, .ref t2, .ref t3, .ref t4, .ref t5]))]) (w1 := [(a_12, .inr (11, [.int p1, .int p2, .int p3, .int p4, .int p5, .int p6, .int 0]))]) (wc := [(a_12, .inr (11, [.int 0, .int 0, .int 0, .int 0, .int 0, .int 0, .int 0]))]) hP hD [3] [0, 1, 2] rfl rfl (by decide) (by decide) hk1 hFc hP1 hD1
                have hK := (hK.sub (tys' := []) [] rfl).app hK1
                generalize H1 = H at hP hS ⊢
                have hP : va_P (dC, dI) cls [(lr, .inr (14, [.int 0, .ref tE, .int 0])), (ld, .inr (14, [.int 0, .ref tE, .int 0])), (m0, .inr (12, [.int 0, .ref lr, .ref ld, .ref o1, .int (-1), .int (-1), .int 0, .ref o2, .ref o3, .ref o4, .ref o5, .ref o6, .ref o7, .ref o8, .ref o9, .ref o10, .int 0, .int 0, .null, .int 0, .int 45, .ref t1, .ref t2, .ref t3, .ref t4, .ref t5])), (a_12, .inr (11, [.int p1, .int p2, .int p3, .int p4, .int p5, .int p6, .int 0]))] H := hP
                have hD : va_D A [(lr, .inr (14, [.int 0, .ref tE, .int 0])), (ld, .inr (14, [.int 0, .ref tE, .int 0])), (m0, .inr (12, [.int 0, .ref lr, .ref ld, .ref o1, .int (-1), .int (-1), .int 0, .ref o2, .ref o3, .ref o4, .ref o5, .ref o6, .ref o7, .ref o8, .ref o9, .ref o10, .int 0, .int 0, .null, .int 0, .int 45, .ref t1, .ref t2, .ref t3, .ref t4, .ref t5])), (a_12, .inr (11, [.int p1, .int p2, .int p3, .int p4, .int p5, .int p6, .int 0]))] := hD
                have hK : va_K (dC, dI) cls [] s := hK
                refine W.widen (k := 1) (n := 7) (Nat.le_of_ble_eq_true rfl) (Nat.le_of_ble_eq_true rfl) ?_
                have hPc := hP.sub (ws' := [(lr, .inr (14, [.int 0, .ref tE, .int 0])), (a_12, .inr (11, [.int p1, .int p2, .int p3, .int p4, .int p5, .int p6, .int 0]))]) [0, 3] rfl
                have hKc := hK.sub (tys' := []) [] rfl
                have hDc := hD.sub (ws' := [(lr, .inr (14, [.int 0, .ref tE, .int 0])), (a_12, .inr (11, [.int p1, .int p2, .int p3, .int p4, .int p5, .int p6, .int 0]))]) [0, 3] (by decide) rfl
                have hFc := va_free (wc := [(lr, .inr (14, [.int 0, .ref tE, .int 0])), (a_12, .inr (11, [.int p1, .int p2, .int p3, .int p4, .int p5, .int p6, .int 0]))]) hD hS hA [0, 3] rfl
                refine va_callFi (va_runF (hK.1 14 _ rfl).2 (As := [.ref a_12]) (rest := []) ⟨hx, hb, hml, hown, hq⟩ (c_add1 l hst tE adK adV dC dI lr a_12 p1 p2 p3 p4 p5 p6 0 H.size) (tcF 1 hq q_1532 q_15 q_1525 q_1530 q_1528 q_1527 q_1526 q_1531 q_1529 q_1479 rfl rfl (by decide +kernel) ⟨Nat.le_of_ble_eq_true rfl, Nat.le_of_ble_eq_true rfl⟩) (pre.V (va_recv hK hP (ci := 14) (q0 := 0) rfl rfl) (pre.of hPc hDc hKc ham hS hFc)) rfl rfl hl.1 rfl (lv_room (Nat.le_of_ble_eq_true rfl)) dX12_role_100 ⟨Nat.le_of_ble_eq_true rfl, Nat.le_of_ble_eq_true rfl⟩) hS (fun q _ h => hFc q h) hFc (fun r_15 u t H1 locs ht hvm hw hB hz1 hk1 hS => ?_)
                obtain ⟨na_16, hP1, hK1, hD1⟩ := hB
                rw [ht] at hP1
                have hK1 := va_K.moved hvm.symm hK1
                obtain ⟨hP, hD⟩ := va_join (wr := [(ld, .inr (14, [.int 0, .ref tE, .int 0])), (m0, .inr (12, [.int 0, .ref lr, .ref ld, .ref o1, .int (-1), .int (-1), .int 0, .ref o2, .ref o3, .ref o4, .ref o5, .ref o6, .ref o7, .ref o8, .ref o9, .ref o10, .int 0, .int 0, .null, .int 0, .int 45, .ref t1, .ref t2, .ref t3, .ref t4, .ref t5]))]) (w1 := [(lr, .inr (14, [.int 1, .ref na_16, .int 1]))]) (wc := [(lr, .inr (14, [.int 0, .ref tE, .int 0])), (a_12, .inr (11, [.int p1, .int p2, .int p3, .int p4, .int p5, .int p6, .int 0]))]) hP hD [0, 3] [1, 2] rfl rfl (by decide) (by decide) hk1 hFc hP1 hD1
                have hK := (hK.sub (tys' := []) [] rfl).app hK1
                generalize H1 = H at hP hS ⊢
                have hP : va_P (dC, dI) cls [(ld, .inr (14, [.int 0, .ref tE, .int 0])), (m0, .inr (12, [.int 0, .ref lr, .ref ld, .ref o1, .int (-1), .int (-1), .int 0, .ref o2, .ref o3, .ref o4, .ref o5, .ref o6, .ref o7, .ref o8, .ref o9, .ref o10, .int 0, .int 0, .null, .int 0, .int 45, .ref t1, .ref t2, .ref t3, .ref t4, .ref t5])), (lr, .inr (14, [.int 1, .ref na_16, .int 1]))] H := hP
                have hD : va_D A [(ld, .inr (14, [.int 0, .ref tE, .int 0])), (m0, .inr (12, [.int 0, .ref lr, .ref ld, .ref o1, .int (-1), .int (-1), .int 0, .ref o2, .ref o3, .ref o4, .ref o5, .ref o6, .ref o7, .ref o8, .ref o9, .ref o10, .int 0, .int 0, .null, .int 0, .int 45, .ref t1, .ref t2, .ref t3, .ref t4, .ref t5])), (lr, .inr (14, [.int 1, .ref na_16, .int 1]))] := hD
                have hK : va_K (dC, dI) cls [] s := hK
                refine W.widen (k := 2) (n := 17) (Nat.le_of_ble_eq_true rfl) (Nat.le_of_ble_eq_true rfl) ?_
                have hw : r_15 = 1 := hw
                subst hw
                refine lv_pop hx hb dX12_role_105 rfl ?_
                refine lv_aload_n hx hb dX12_role_106 rfl (lv_at hl 0 rfl) ?_
                refine va_get (D := (dC, dI)) (ci := 12) (v := .ref lr) (C := RX12) (T := TX12) (N := 26) hx hb hq i_X12 hown hK hP 1 rfl rfl 1 (by decide) (hq _ q_1305) (fun _ h9 => h9) rfl dX12_role_107 ?_
                have hPc := hP.sub (ws' := [(lr, .inr (14, [.int 1, .ref na_16, .int 1]))]) [2] rfl
                have hKc := hK.sub (tys' := []) [] rfl
                refine va_callFi (va_runF (hK.1 14 _ rfl).2 (As := []) (rest := []) ⟨hx, hb, hml, hown, hq⟩ (c_size1 l hst tE adK adV dC dI lr na_16 H.size) (tcF 0 hq q_1484 q_15 q_1476 q_1482 q_1480 q_1478 q_1477 q_1483 q_1481 q_1479 rfl rfl (by decide +kernel) ⟨Nat.le_of_ble_eq_true rfl, Nat.le_of_ble_eq_true rfl⟩) (preR.V (va_recv hK hP (ci := 14) (q0 := 2) rfl rfl) (preR.of hPc hKc ham hS hA)) rfl rfl hl.1 rfl (lv_room (Nat.le_of_ble_eq_true rfl)) dX12_role_110 ⟨Nat.le_of_ble_eq_true rfl, Nat.le_of_ble_eq_true rfl⟩) hS (fun q _ h => hA q (Nat.le_trans hS.1 h)) (fun q h => hA q (Nat.le_trans hS.1 h)) (fun r_17 u t H1 locs ht hvm hw hB hz1 hk1 hS => ?_)
                have hP : va_P (dC, dI) cls [(ld, .inr (14, [.int 0, .ref tE, .int 0])), (m0, .inr (12, [.int 0, .ref lr, .ref ld, .ref o1, .int (-1), .int (-1), .int 0, .ref o2, .ref o3, .ref o4, .ref o5, .ref o6, .ref o7, .ref o8, .ref o9, .ref o10, .int 0, .int 0, .null, .int 0, .int 45, .ref t1, .ref t2, .ref t3, .ref t4, .ref t5])), (lr, .inr (14, [.int 1, .ref na_16, .int 1]))] H1 := ro_keep hP hk1
                generalize H1 = H at hP hS ⊢
                refine W.widen (k := 2) (n := 17) (Nat.le_of_ble_eq_true rfl) (Nat.le_of_ble_eq_true rfl) ?_
                have hw : r_17 = 1 := hw
                subst hw
                refine lv_iconst (v := 1) hx hb dX12_role_115 (by decide) ?_
                refine lv_isub hx hb dX12_role_116 ?_
                refine W.eq (congrArg (fun z : Int32 => F0 m 117 ls (.int z :: [])) (by decide : (1 - 1 : Int32) = 0)) ?_
                refine W.widen (k := 2) (n := 17) (Nat.le_of_ble_eq_true rfl) (Nat.le_of_ble_eq_true rfl) ?_
                have hP9 := hP.sub (ws' := [(m0, .inr (12, [.int 0, .ref lr, .ref ld, .ref o1, .int (-1), .int (-1), .int 0, .ref o2, .ref o3, .ref o4, .ref o5, .ref o6, .ref o7, .ref o8, .ref o9, .ref o10, .int 0, .int 0, .null, .int 0, .int 45, .ref t1, .ref t2, .ref t3, .ref t4, .ref t5]))]) [1] rfl
                have hD9 := hD.sub (ws' := [(m0, .inr (12, [.int 0, .ref lr, .ref ld, .ref o1, .int (-1), .int (-1), .int 0, .ref o2, .ref o3, .ref o4, .ref o5, .ref o6, .ref o7, .ref o8, .ref o9, .ref o10, .int 0, .int 0, .null, .int 0, .int 45, .ref t1, .ref t2, .ref t3, .ref t4, .ref t5]))]) [1] (by decide) rfl
                have hK9 := hK.sub (tys' := []) [] rfl
                exact W.iret (v := 0) hx hb hr (fun t ht hW => ⟨⟨0, (), rfl, rfl, ⟨by rw [ht]; exact hP9, va_K.moved hW.alike hK9, hD9⟩⟩, hS.F ht⟩) hS.2.2 dX12_role_117
              · exact absurd c_11 (by decide)
            · exact absurd c_9 (by decide)
          · exact absurd c_7 (by decide)
        · exact absurd (Int32.not_le.mp c_6) hok.2.2.2
theorem dX12_role_29 : decode cX12_role 29 = .ok (.iconst 1, 1) := by decide +kernel
theorem dX12_role_30 : decode cX12_role 30 = .ok (.goto 33, 3) := by decide +kernel
theorem dX12_role_69 : decode cX12_role 69 = .ok (.iconst 0, 1) := by decide +kernel
theorem dX12_role_70 : decode cX12_role 70 = .ok (.ireturn, 1) := by decide +kernel
set_option maxHeartbeats 4000000 in
set_option maxRecDepth 100000 in
theorem c_M_role_no (l : Launch) (hst : l.stackTraces = false) (tE : Nat) (adK adV : Nat → Nat) (dC : Nat → ClassId) (dI : Nat → Nat → Nat) (m0 : Nat) (lr : Nat) (ld : Nat) (o1 : Nat) (o2 : Nat) (o3 : Nat) (o4 : Nat) (o5 : Nat) (o6 : Nat) (o7 : Nat) (o8 : Nat) (o9 : Nat) (o10 : Nat) (t1 : Nat) (t2 : Nat) (t3 : Nat) (t4 : Nat) (t5 : Nat) (th : Int32) (p1 : Int32) (p2 : Int32) (p3 : Int32) (p4 : Int32) (p5 : Int32) (p6 : Int32) (hok : ¬ okR p1 p2 p3) (sz : Nat) : Met l yX12_role (Cond.code yX12_role cX12_role 7 (some .int) :: tw) ({ frames := 4, cells := 0, slots := 0, locals := 91 }) (va_Pc [.ref m0, .int p1, .int p2, .int p3, .int p4, .int p5, .int p6] (pre tE adK adV (dC, dI) [(m0, .inr (12, [.int th, .ref lr, .ref ld, .ref o1, .int (-1), .int (-1), .int 0, .ref o2, .ref o3, .ref o4, .ref o5, .ref o6, .ref o7, .ref o8, .ref o9, .ref o10, .int 0, .int 0, .null, .int 0, .int 45, .ref t1, .ref t2, .ref t3, .ref t4, .ref t5])), (lr, .inr (14, [.int 0, .ref tE, .int 0])), (ld, .inr (14, [.int 0, .ref tE, .int 0]))] [] sz)) (va_Qi (fun (r : Int32) (_ : Unit) => True) (fun (_ : Unit) (t : State) => va_P (dC, dI) cls [(m0, .inr (12, [.int 1, .ref lr, .ref ld, .ref o1, .int (-1), .int (-1), .int 0, .ref o2, .ref o3, .ref o4, .ref o5, .ref o6, .ref o7, .ref o8, .ref o9, .ref o10, .int 0, .int 0, .null, .int 0, .int 45, .ref t1, .ref t2, .ref t3, .ref t4, .ref t5]))] t.heap ∧ va_K (dC, dI) cls [] t ∧ va_D (va_A [(m0, .inr (12, [.int th, .ref lr, .ref ld, .ref o1, .int (-1), .int (-1), .int 0, .ref o2, .ref o3, .ref o4, .ref o5, .ref o6, .ref o7, .ref o8, .ref o9, .ref o10, .int 0, .int 0, .null, .int 0, .int 45, .ref t1, .ref t2, .ref t3, .ref t4, .ref t5])), (lr, .inr (14, [.int 0, .ref tE, .int 0])), (ld, .inr (14, [.int 0, .ref tE, .int 0]))] sz) [(m0, .inr (12, [.int 1, .ref lr, .ref ld, .ref o1, .int (-1), .int (-1), .int 0, .ref o2, .ref o3, .ref o4, .ref o5, .ref o6, .ref o7, .ref o8, .ref o9, .ref o10, .int 0, .int 0, .null, .int 0, .int 45, .ref t1, .ref t2, .ref t3, .ref t4, .ref t5]))]) (va_A [(m0, .inr (12, [.int th, .ref lr, .ref ld, .ref o1, .int (-1), .int (-1), .int 0, .ref o2, .ref o3, .ref o4, .ref o5, .ref o6, .ref o7, .ref o8, .ref o9, .ref o10, .int 0, .int 0, .null, .int 0, .int 45, .ref t1, .ref t2, .ref t3, .ref t4, .ref t5])), (lr, .inr (14, [.int 0, .ref tE, .int 0])), (ld, .inr (14, [.int 0, .ref tE, .int 0]))] sz)) 0 0 (va_A [(m0, .inr (12, [.int th, .ref lr, .ref ld, .ref o1, .int (-1), .int (-1), .int 0, .ref o2, .ref o3, .ref o4, .ref o5, .ref o6, .ref o7, .ref o8, .ref o9, .ref o10, .int 0, .int 0, .null, .int 0, .int 45, .ref t1, .ref t2, .ref t3, .ref t4, .ref t5])), (lr, .inr (14, [.int 0, .ref tE, .int 0])), (ld, .inr (14, [.int 0, .ref tE, .int 0]))] sz) := by
  refine Met.ofW (cc := cX12_role) (maxL := 7) (ret := (some .int)) (by decide) rfl ?_
  intro p e s m args below meth c s₁ B hml hv
  obtain ⟨rfl, hsz, hP, hK, hD0, ham⟩ := hv
  have hx := B.exec
  have hb := B.bytes
  have hr := B.returns
  have hts := atoms_spec B.pre
  have hq : ∀ w ∈ tw, w.before _ s = true := fun w h => hts w (List.mem_cons_of_mem _ h)
  have hown : s.vm.findClass RX12 = some m.cls := findClass_of_methodNamed B.named
  have hlocks := B.notSynchronized
  subst hsz
  have hD := hD0.self (sz := s.heap.size)
  generalize hAe : va_A [(m0, .inr (12, [.int th, .ref lr, .ref ld, .ref o1, .int (-1), .int (-1), .int 0, .ref o2, .ref o3, .ref o4, .ref o5, .ref o6, .ref o7, .ref o8, .ref o9, .ref o10, .int 0, .int 0, .null, .int 0, .int 45, .ref t1, .ref t2, .ref t3, .ref t4, .ref t5])), (lr, .inr (14, [.int 0, .ref tE, .int 0])), (ld, .inr (14, [.int 0, .ref tE, .int 0]))] s.heap.size = A at hD ham ⊢
  have hA : ∀ q : Nat, s.heap.size ≤ q → A q := fun q h => by rw [← hAe]; exact Or.inr h
  have hS : va_S A s.heap s.heap [] := va_S.rf
  have hP : va_P (dC, dI) cls [(m0, .inr (12, [.int th, .ref lr, .ref ld, .ref o1, .int (-1), .int (-1), .int 0, .ref o2, .ref o3, .ref o4, .ref o5, .ref o6, .ref o7, .ref o8, .ref o9, .ref o10, .int 0, .int 0, .null, .int 0, .int 45, .ref t1, .ref t2, .ref t3, .ref t4, .ref t5])), (lr, .inr (14, [.int 0, .ref tE, .int 0])), (ld, .inr (14, [.int 0, .ref tE, .int 0]))] s.heap := hP
  have hl := lv_entry ([.ref m0, .int p1, .int p2, .int p3, .int p4, .int p5, .int p6]) (n := 7) (Nat.le_of_ble_eq_true rfl)
  rw [lg_entry_eq]
  generalize (lg_sl ([.ref m0, .int p1, .int p2, .int p3, .int p4, .int p5, .int p6]) ++ List.replicate (7 - (lg_sl ([.ref m0, .int p1, .int p2, .int p3, .int p4, .int p5, .int p6])).length) Slot.unset).toArray = ls at hl ⊢
  have hl : lv_has ls 7 [(0, .ref m0), (1, .int p1), (2, .int p2), (3, .int p3), (4, .int p4), (5, .int p5), (6, .int p6)] := hl
  refine lv_aload_n hx hb dX12_role_0 rfl (lv_at hl 0 rfl) ?_
  refine va_ldcS hx hb hown (ham.2.2.2.2.1.1 _ sr_1387) dX12_role_1 ?_
  refine lv_iload_n hx hb dX12_role_3 rfl (lv_at hl 1 rfl) ?_
  have hPc := hP.sub (ws' := []) [] rfl
  have hKc := hK.sub (tys' := []) [] rfl
  refine va_calli (va_runV (As := [.int p1]) (rest := [.ref m0]) ⟨hx, hb, hml, hown, hq⟩ (c_ix0 l hst tE adK adV dC dI p1 s.heap.size) (tcV 1 hq q_1391 q_23 q_1388 q_1389 q_1390 rfl rfl (by decide +kernel) ⟨Nat.le_of_ble_eq_true rfl, Nat.le_of_ble_eq_true rfl⟩) (preR.V (vk_recv ham.2.2.2.1.2 (i := 0) (by decide) hS) (preR.of hPc hKc ham hS hA)) rfl rfl hl.1 rfl (lv_room (Nat.le_of_ble_eq_true rfl)) dX12_role_4 ⟨Nat.le_of_ble_eq_true rfl, Nat.le_of_ble_eq_true rfl⟩) hS (fun q _ h => hA q (Nat.le_trans hS.1 h)) (fun q h => hA q (Nat.le_trans hS.1 h)) (fun r_1 u t H1 locs ht hvm hw hB hz1 hk1 hS => ?_)
  have hP : va_P (dC, dI) cls [(m0, .inr (12, [.int th, .ref lr, .ref ld, .ref o1, .int (-1), .int (-1), .int 0, .ref o2, .ref o3, .ref o4, .ref o5, .ref o6, .ref o7, .ref o8, .ref o9, .ref o10, .int 0, .int 0, .null, .int 0, .int 45, .ref t1, .ref t2, .ref t3, .ref t4, .ref t5])), (lr, .inr (14, [.int 0, .ref tE, .int 0])), (ld, .inr (14, [.int 0, .ref tE, .int 0]))] H1 := ro_keep hP hk1
  generalize H1 = H at hP hS ⊢
  refine W.widen (k := 0) (n := 0) (Nat.le_of_ble_eq_true rfl) (Nat.le_of_ble_eq_true rfl) ?_
  have er_1 : (r_1 < 0 ∧ ¬ okS p1) ∨ (¬ r_1 < 0 ∧ okS p1) := hw
  refine lv_if_lt (tgt := 29) hx hb dX12_role_7 (by decide) (fun c_2 => ?_) (fun c_2 => ?_)
  · refine lv_iconst (v := 1) hx hb dX12_role_29 (by decide) ?_
    refine lv_goto (tgt := 63) hx hb dX12_role_30 (by decide) ?_
    have hPc := hP.sub (ws' := [(m0, .inr (12, [.int th, .ref lr, .ref ld, .ref o1, .int (-1), .int (-1), .int 0, .ref o2, .ref o3, .ref o4, .ref o5, .ref o6, .ref o7, .ref o8, .ref o9, .ref o10, .int 0, .int 0, .null, .int 0, .int 45, .ref t1, .ref t2, .ref t3, .ref t4, .ref t5]))]) [0] rfl
    have hKc := hK.sub (tys' := []) [] rfl
    have hDc := hD.sub (ws' := [(m0, .inr (12, [.int th, .ref lr, .ref ld, .ref o1, .int (-1), .int (-1), .int 0, .ref o2, .ref o3, .ref o4, .ref o5, .ref o6, .ref o7, .ref o8, .ref o9, .ref o10, .int 0, .int 0, .null, .int 0, .int 45, .ref t1, .ref t2, .ref t3, .ref t4, .ref t5]))]) [0] (by decide) rfl
    have hFc := va_free (wc := [(m0, .inr (12, [.int th, .ref lr, .ref ld, .ref o1, .int (-1), .int (-1), .int 0, .ref o2, .ref o3, .ref o4, .ref o5, .ref o6, .ref o7, .ref o8, .ref o9, .ref o10, .int 0, .int 0, .null, .int 0, .int 45, .ref t1, .ref t2, .ref t3, .ref t4, .ref t5]))]) hD hS hA [0] rfl
    refine va_calli (va_runV (As := [.int 1]) (rest := []) ⟨hx, hb, hml, hown, hq⟩ (c_isWrong1 l hst tE adK adV dC dI m0 lr ld o1 o2 o3 o4 o5 o6 o7 o8 o9 o10 t1 t2 t3 t4 t5 th H.size) (tcV 1 hq q_1488 q_12 q_1485 q_1487 qp_22 rfl rfl (by decide +kernel) ⟨Nat.le_of_ble_eq_true rfl, Nat.le_of_ble_eq_true rfl⟩) (pre.V (va_recv hK hP (ci := 12) (q0 := 0) rfl rfl) (pre.of hPc hDc hKc ham hS hFc)) rfl rfl hl.1 rfl (lv_room (Nat.le_of_ble_eq_true rfl)) dX12_role_63 ⟨Nat.le_of_ble_eq_true rfl, Nat.le_of_ble_eq_true rfl⟩) hS (fun q _ h => hFc q h) hFc (fun r_3 u t H1 locs ht hvm hw hB hz1 hk1 hS => ?_)
    obtain ⟨hP1, hK1, hD1⟩ := hB
    rw [ht] at hP1
    have hK1 := va_K.moved hvm.symm hK1
    obtain ⟨hP, hD⟩ := va_join (wr := [(lr, .inr (14, [.int 0, .ref tE, .int 0])), (ld, .inr (14, [.int 0, .ref tE, .int 0]))]) (w1 := [(m0, .inr (12, [.int 1, .ref lr, .ref ld, .ref o1, .int (-1), .int (-1), .int 0, .ref o2, .ref o3, .ref o4, .ref o5, .ref o6, .ref o7, .ref o8, .ref o9, .ref o10, .int 0, .int 0, .null, .int 0, .int 45, .ref t1, .ref t2, .ref t3, .ref t4, .ref t5]))]) (wc := [(m0, .inr (12, [.int th, .ref lr, .ref ld, .ref o1, .int (-1), .int (-1), .int 0, .ref o2, .ref o3, .ref o4, .ref o5, .ref o6, .ref o7, .ref o8, .ref o9, .ref o10, .int 0, .int 0, .null, .int 0, .int 45, .ref t1, .ref t2, .ref t3, .ref t4, .ref t5]))]) hP hD [0] [1, 2] rfl rfl (by decide) (by decide) hk1 hFc hP1 hD1
    have hK := (hK.sub (tys' := []) [] rfl).app hK1
    generalize H1 = H at hP hS ⊢
    have hP : va_P (dC, dI) cls [(lr, .inr (14, [.int 0, .ref tE, .int 0])), (ld, .inr (14, [.int 0, .ref tE, .int 0])), (m0, .inr (12, [.int 1, .ref lr, .ref ld, .ref o1, .int (-1), .int (-1), .int 0, .ref o2, .ref o3, .ref o4, .ref o5, .ref o6, .ref o7, .ref o8, .ref o9, .ref o10, .int 0, .int 0, .null, .int 0, .int 45, .ref t1, .ref t2, .ref t3, .ref t4, .ref t5]))] H := hP
    have hD : va_D A [(lr, .inr (14, [.int 0, .ref tE, .int 0])), (ld, .inr (14, [.int 0, .ref tE, .int 0])), (m0, .inr (12, [.int 1, .ref lr, .ref ld, .ref o1, .int (-1), .int (-1), .int 0, .ref o2, .ref o3, .ref o4, .ref o5, .ref o6, .ref o7, .ref o8, .ref o9, .ref o10, .int 0, .int 0, .null, .int 0, .int 45, .ref t1, .ref t2, .ref t3, .ref t4, .ref t5]))] := hD
    have hK : va_K (dC, dI) cls [] s := hK
    refine W.widen (k := 0) (n := 0) (Nat.le_of_ble_eq_true rfl) (Nat.le_of_ble_eq_true rfl) ?_
    have hw : r_3 = 1 := hw
    subst hw
    refine lv_if_eq (tgt := 71) hx hb dX12_role_66 (by decide) (fun c_4 => ?_) (fun c_4 => ?_)
    · exact absurd c_4 (by decide)
    · refine lv_iconst (v := 0) hx hb dX12_role_69 (by decide) ?_
      refine W.widen (k := 0) (n := 0) (Nat.le_of_ble_eq_true rfl) (Nat.le_of_ble_eq_true rfl) ?_
      have hP9 := hP.sub (ws' := [(m0, .inr (12, [.int 1, .ref lr, .ref ld, .ref o1, .int (-1), .int (-1), .int 0, .ref o2, .ref o3, .ref o4, .ref o5, .ref o6, .ref o7, .ref o8, .ref o9, .ref o10, .int 0, .int 0, .null, .int 0, .int 45, .ref t1, .ref t2, .ref t3, .ref t4, .ref t5]))]) [2] rfl
      have hD9 := hD.sub (ws' := [(m0, .inr (12, [.int 1, .ref lr, .ref ld, .ref o1, .int (-1), .int (-1), .int 0, .ref o2, .ref o3, .ref o4, .ref o5, .ref o6, .ref o7, .ref o8, .ref o9, .ref o10, .int 0, .int 0, .null, .int 0, .int 45, .ref t1, .ref t2, .ref t3, .ref t4, .ref t5]))]) [2] (by decide) rfl
      have hK9 := hK.sub (tys' := []) [] rfl
      exact W.iret (v := 0) hx hb hr (fun t ht hW => ⟨⟨0, (), rfl, trivial, ⟨by rw [ht]; exact hP9, va_K.moved hW.alike hK9, hD9⟩⟩, hS.F ht⟩) hS.2.2 dX12_role_70
  · refine va_ldcS hx hb hown (ham.2.2.2.2.1.2 _ sr_1474) dX12_role_10 ?_
    refine lv_iload_n hx hb dX12_role_12 rfl (lv_at hl 2 rfl) ?_
    have hPc := hP.sub (ws' := []) [] rfl
    have hKc := hK.sub (tys' := []) [] rfl
    refine va_calli (va_runV (As := [.int p2]) (rest := [.ref m0]) ⟨hx, hb, hml, hown, hq⟩ (c_ix1 l hst tE adK adV dC dI p2 H.size) (tcV 1 hq q_1391 q_23 q_1388 q_1389 q_1390 rfl rfl (by decide +kernel) ⟨Nat.le_of_ble_eq_true rfl, Nat.le_of_ble_eq_true rfl⟩) (preR.V (vk_recv ham.2.2.2.1.2 (i := 1) (by decide) hS) (preR.of hPc hKc ham hS hA)) rfl rfl hl.1 rfl (lv_room (Nat.le_of_ble_eq_true rfl)) dX12_role_13 ⟨Nat.le_of_ble_eq_true rfl, Nat.le_of_ble_eq_true rfl⟩) hS (fun q _ h => hA q (Nat.le_trans hS.1 h)) (fun q h => hA q (Nat.le_trans hS.1 h)) (fun r_5 u t H1 locs ht hvm hw hB hz1 hk1 hS => ?_)
    have hP : va_P (dC, dI) cls [(m0, .inr (12, [.int th, .ref lr, .ref ld, .ref o1, .int (-1), .int (-1), .int 0, .ref o2, .ref o3, .ref o4, .ref o5, .ref o6, .ref o7, .ref o8, .ref o9, .ref o10, .int 0, .int 0, .null, .int 0, .int 45, .ref t1, .ref t2, .ref t3, .ref t4, .ref t5])), (lr, .inr (14, [.int 0, .ref tE, .int 0])), (ld, .inr (14, [.int 0, .ref tE, .int 0]))] H1 := ro_keep hP hk1
    generalize H1 = H at hP hS ⊢
    refine W.widen (k := 0) (n := 0) (Nat.le_of_ble_eq_true rfl) (Nat.le_of_ble_eq_true rfl) ?_
    have er_5 : (r_5 < 0 ∧ ¬ okA p2) ∨ (¬ r_5 < 0 ∧ okA p2) := hw
    refine lv_if_lt (tgt := 29) hx hb dX12_role_16 (by decide) (fun c_6 => ?_) (fun c_6 => ?_)
    · refine lv_iconst (v := 1) hx hb dX12_role_29 (by decide) ?_
      refine lv_goto (tgt := 63) hx hb dX12_role_30 (by decide) ?_
      have hPc := hP.sub (ws' := [(m0, .inr (12, [.int th, .ref lr, .ref ld, .ref o1, .int (-1), .int (-1), .int 0, .ref o2, .ref o3, .ref o4, .ref o5, .ref o6, .ref o7, .ref o8, .ref o9, .ref o10, .int 0, .int 0, .null, .int 0, .int 45, .ref t1, .ref t2, .ref t3, .ref t4, .ref t5]))]) [0] rfl
      have hKc := hK.sub (tys' := []) [] rfl
      have hDc := hD.sub (ws' := [(m0, .inr (12, [.int th, .ref lr, .ref ld, .ref o1, .int (-1), .int (-1), .int 0, .ref o2, .ref o3, .ref o4, .ref o5, .ref o6, .ref o7, .ref o8, .ref o9, .ref o10, .int 0, .int 0, .null, .int 0, .int 45, .ref t1, .ref t2, .ref t3, .ref t4, .ref t5]))]) [0] (by decide) rfl
      have hFc := va_free (wc := [(m0, .inr (12, [.int th, .ref lr, .ref ld, .ref o1, .int (-1), .int (-1), .int 0, .ref o2, .ref o3, .ref o4, .ref o5, .ref o6, .ref o7, .ref o8, .ref o9, .ref o10, .int 0, .int 0, .null, .int 0, .int 45, .ref t1, .ref t2, .ref t3, .ref t4, .ref t5]))]) hD hS hA [0] rfl
      refine va_calli (va_runV (As := [.int 1]) (rest := []) ⟨hx, hb, hml, hown, hq⟩ (c_isWrong1 l hst tE adK adV dC dI m0 lr ld o1 o2 o3 o4 o5 o6 o7 o8 o9 o10 t1 t2 t3 t4 t5 th H.size) (tcV 1 hq q_1488 q_12 q_1485 q_1487 qp_22 rfl rfl (by decide +kernel) ⟨Nat.le_of_ble_eq_true rfl, Nat.le_of_ble_eq_true rfl⟩) (pre.V (va_recv hK hP (ci := 12) (q0 := 0) rfl rfl) (pre.of hPc hDc hKc ham hS hFc)) rfl rfl hl.1 rfl (lv_room (Nat.le_of_ble_eq_true rfl)) dX12_role_63 ⟨Nat.le_of_ble_eq_true rfl, Nat.le_of_ble_eq_true rfl⟩) hS (fun q _ h => hFc q h) hFc (fun r_7 u t H1 locs ht hvm hw hB hz1 hk1 hS => ?_)
      obtain ⟨hP1, hK1, hD1⟩ := hB
      rw [ht] at hP1
      have hK1 := va_K.moved hvm.symm hK1
      obtain ⟨hP, hD⟩ := va_join (wr := [(lr, .inr (14, [.int 0, .ref tE, .int 0])), (ld, .inr (14, [.int 0, .ref tE, .int 0]))]) (w1 := [(m0, .inr (12, [.int 1, .ref lr, .ref ld, .ref o1, .int (-1), .int (-1), .int 0, .ref o2, .ref o3, .ref o4, .ref o5, .ref o6, .ref o7, .ref o8, .ref o9, .ref o10, .int 0, .int 0, .null, .int 0, .int 45, .ref t1, .ref t2, .ref t3, .ref t4, .ref t5]))]) (wc := [(m0, .inr (12, [.int th, .ref lr, .ref ld, .ref o1, .int (-1), .int (-1), .int 0, .ref o2, .ref o3, .ref o4, .ref o5, .ref o6, .ref o7, .ref o8, .ref o9, .ref o10, .int 0, .int 0, .null, .int 0, .int 45, .ref t1, .ref t2, .ref t3, .ref t4, .ref t5]))]) hP hD [0] [1, 2] rfl rfl (by decide) (by decide) hk1 hFc hP1 hD1
      have hK := (hK.sub (tys' := []) [] rfl).app hK1
      generalize H1 = H at hP hS ⊢
      have hP : va_P (dC, dI) cls [(lr, .inr (14, [.int 0, .ref tE, .int 0])), (ld, .inr (14, [.int 0, .ref tE, .int 0])), (m0, .inr (12, [.int 1, .ref lr, .ref ld, .ref o1, .int (-1), .int (-1), .int 0, .ref o2, .ref o3, .ref o4, .ref o5, .ref o6, .ref o7, .ref o8, .ref o9, .ref o10, .int 0, .int 0, .null, .int 0, .int 45, .ref t1, .ref t2, .ref t3, .ref t4, .ref t5]))] H := hP
      have hD : va_D A [(lr, .inr (14, [.int 0, .ref tE, .int 0])), (ld, .inr (14, [.int 0, .ref tE, .int 0])), (m0, .inr (12, [.int 1, .ref lr, .ref ld, .ref o1, .int (-1), .int (-1), .int 0, .ref o2, .ref o3, .ref o4, .ref o5, .ref o6, .ref o7, .ref o8, .ref o9, .ref o10, .int 0, .int 0, .null, .int 0, .int 45, .ref t1, .ref t2, .ref t3, .ref t4, .ref t5]))] := hD
      have hK : va_K (dC, dI) cls [] s := hK
      refine W.widen (k := 0) (n := 0) (Nat.le_of_ble_eq_true rfl) (Nat.le_of_ble_eq_true rfl) ?_
      have hw : r_7 = 1 := hw
      subst hw
      refine lv_if_eq (tgt := 71) hx hb dX12_role_66 (by decide) (fun c_8 => ?_) (fun c_8 => ?_)
      · exact absurd c_8 (by decide)
      · refine lv_iconst (v := 0) hx hb dX12_role_69 (by decide) ?_
        refine W.widen (k := 0) (n := 0) (Nat.le_of_ble_eq_true rfl) (Nat.le_of_ble_eq_true rfl) ?_
        have hP9 := hP.sub (ws' := [(m0, .inr (12, [.int 1, .ref lr, .ref ld, .ref o1, .int (-1), .int (-1), .int 0, .ref o2, .ref o3, .ref o4, .ref o5, .ref o6, .ref o7, .ref o8, .ref o9, .ref o10, .int 0, .int 0, .null, .int 0, .int 45, .ref t1, .ref t2, .ref t3, .ref t4, .ref t5]))]) [2] rfl
        have hD9 := hD.sub (ws' := [(m0, .inr (12, [.int 1, .ref lr, .ref ld, .ref o1, .int (-1), .int (-1), .int 0, .ref o2, .ref o3, .ref o4, .ref o5, .ref o6, .ref o7, .ref o8, .ref o9, .ref o10, .int 0, .int 0, .null, .int 0, .int 45, .ref t1, .ref t2, .ref t3, .ref t4, .ref t5]))]) [2] (by decide) rfl
        have hK9 := hK.sub (tys' := []) [] rfl
        exact W.iret (v := 0) hx hb hr (fun t ht hW => ⟨⟨0, (), rfl, trivial, ⟨by rw [ht]; exact hP9, va_K.moved hW.alike hK9, hD9⟩⟩, hS.F ht⟩) hS.2.2 dX12_role_70
    · refine lv_iload_n hx hb dX12_role_19 rfl (lv_at hl 3 rfl) ?_
      refine lv_iconst (v := 1) hx hb dX12_role_20 (by decide) ?_
      refine lv_icmp_lt (tgt := 29) hx hb dX12_role_21 (by decide) (fun c_9 => ?_) (fun c_9 => ?_)
      · refine lv_iconst (v := 1) hx hb dX12_role_29 (by decide) ?_
        refine lv_goto (tgt := 63) hx hb dX12_role_30 (by decide) ?_
        have hPc := hP.sub (ws' := [(m0, .inr (12, [.int th, .ref lr, .ref ld, .ref o1, .int (-1), .int (-1), .int 0, .ref o2, .ref o3, .ref o4, .ref o5, .ref o6, .ref o7, .ref o8, .ref o9, .ref o10, .int 0, .int 0, .null, .int 0, .int 45, .ref t1, .ref t2, .ref t3, .ref t4, .ref t5]))]) [0] rfl
        have hKc := hK.sub (tys' := []) [] rfl
        have hDc := hD.sub (ws' := [(m0, .inr (12, [.int th, .ref lr, .ref ld, .ref o1, .int (-1), .int (-1), .int 0, .ref o2, .ref o3, .ref o4, .ref o5, .ref o6, .ref o7, .ref o8, .ref o9, .ref o10, .int 0, .int 0, .null, .int 0, .int 45, .ref t1, .ref t2, .ref t3, .ref t4, .ref t5]))]) [0] (by decide) rfl
        have hFc := va_free (wc := [(m0, .inr (12, [.int th, .ref lr, .ref ld, .ref o1, .int (-1), .int (-1), .int 0, .ref o2, .ref o3, .ref o4, .ref o5, .ref o6, .ref o7, .ref o8, .ref o9, .ref o10, .int 0, .int 0, .null, .int 0, .int 45, .ref t1, .ref t2, .ref t3, .ref t4, .ref t5]))]) hD hS hA [0] rfl
        refine va_calli (va_runV (As := [.int 1]) (rest := []) ⟨hx, hb, hml, hown, hq⟩ (c_isWrong1 l hst tE adK adV dC dI m0 lr ld o1 o2 o3 o4 o5 o6 o7 o8 o9 o10 t1 t2 t3 t4 t5 th H.size) (tcV 1 hq q_1488 q_12 q_1485 q_1487 qp_22 rfl rfl (by decide +kernel) ⟨Nat.le_of_ble_eq_true rfl, Nat.le_of_ble_eq_true rfl⟩) (pre.V (va_recv hK hP (ci := 12) (q0 := 0) rfl rfl) (pre.of hPc hDc hKc ham hS hFc)) rfl rfl hl.1 rfl (lv_room (Nat.le_of_ble_eq_true rfl)) dX12_role_63 ⟨Nat.le_of_ble_eq_true rfl, Nat.le_of_ble_eq_true rfl⟩) hS (fun q _ h => hFc q h) hFc (fun r_10 u t H1 locs ht hvm hw hB hz1 hk1 hS => ?_)
        obtain ⟨hP1, hK1, hD1⟩ := hB
        rw [ht] at hP1
        have hK1 := va_K.moved hvm.symm hK1
        obtain ⟨hP, hD⟩ := va_join (wr := [(lr, .inr (14, [.int 0, .ref tE, .int 0])), (ld, .inr (14, [.int 0, .ref tE, .int 0]))]) (w1 := [(m0, .inr (12, [.int 1, .ref lr, .ref ld, .ref o1, .int (-1), .int (-1), .int 0, .ref o2, .ref o3, .ref o4, .ref o5, .ref o6, .ref o7, .ref o8, .ref o9, .ref o10, .int 0, .int 0, .null, .int 0, .int 45, .ref t1, .ref t2, .ref t3, .ref t4, .ref t5]))]) (wc := [(m0, .inr (12, [.int th, .ref lr, .ref ld, .ref o1, .int (-1), .int (-1), .int 0, .ref o2, .ref o3, .ref o4, .ref o5, .ref o6, .ref o7, .ref o8, .ref o9, .ref o10, .int 0, .int 0, .null, .int 0, .int 45, .ref t1, .ref t2, .ref t3, .ref t4, .ref t5]))]) hP hD [0] [1, 2] rfl rfl (by decide) (by decide) hk1 hFc hP1 hD1
        have hK := (hK.sub (tys' := []) [] rfl).app hK1
        generalize H1 = H at hP hS ⊢
        have hP : va_P (dC, dI) cls [(lr, .inr (14, [.int 0, .ref tE, .int 0])), (ld, .inr (14, [.int 0, .ref tE, .int 0])), (m0, .inr (12, [.int 1, .ref lr, .ref ld, .ref o1, .int (-1), .int (-1), .int 0, .ref o2, .ref o3, .ref o4, .ref o5, .ref o6, .ref o7, .ref o8, .ref o9, .ref o10, .int 0, .int 0, .null, .int 0, .int 45, .ref t1, .ref t2, .ref t3, .ref t4, .ref t5]))] H := hP
        have hD : va_D A [(lr, .inr (14, [.int 0, .ref tE, .int 0])), (ld, .inr (14, [.int 0, .ref tE, .int 0])), (m0, .inr (12, [.int 1, .ref lr, .ref ld, .ref o1, .int (-1), .int (-1), .int 0, .ref o2, .ref o3, .ref o4, .ref o5, .ref o6, .ref o7, .ref o8, .ref o9, .ref o10, .int 0, .int 0, .null, .int 0, .int 45, .ref t1, .ref t2, .ref t3, .ref t4, .ref t5]))] := hD
        have hK : va_K (dC, dI) cls [] s := hK
        refine W.widen (k := 0) (n := 0) (Nat.le_of_ble_eq_true rfl) (Nat.le_of_ble_eq_true rfl) ?_
        have hw : r_10 = 1 := hw
        subst hw
        refine lv_if_eq (tgt := 71) hx hb dX12_role_66 (by decide) (fun c_11 => ?_) (fun c_11 => ?_)
        · exact absurd c_11 (by decide)
        · refine lv_iconst (v := 0) hx hb dX12_role_69 (by decide) ?_
          refine W.widen (k := 0) (n := 0) (Nat.le_of_ble_eq_true rfl) (Nat.le_of_ble_eq_true rfl) ?_
          have hP9 := hP.sub (ws' := [(m0, .inr (12, [.int 1, .ref lr, .ref ld, .ref o1, .int (-1), .int (-1), .int 0, .ref o2, .ref o3, .ref o4, .ref o5, .ref o6, .ref o7, .ref o8, .ref o9, .ref o10, .int 0, .int 0, .null, .int 0, .int 45, .ref t1, .ref t2, .ref t3, .ref t4, .ref t5]))]) [2] rfl
          have hD9 := hD.sub (ws' := [(m0, .inr (12, [.int 1, .ref lr, .ref ld, .ref o1, .int (-1), .int (-1), .int 0, .ref o2, .ref o3, .ref o4, .ref o5, .ref o6, .ref o7, .ref o8, .ref o9, .ref o10, .int 0, .int 0, .null, .int 0, .int 45, .ref t1, .ref t2, .ref t3, .ref t4, .ref t5]))]) [2] (by decide) rfl
          have hK9 := hK.sub (tys' := []) [] rfl
          exact W.iret (v := 0) hx hb hr (fun t ht hW => ⟨⟨0, (), rfl, trivial, ⟨by rw [ht]; exact hP9, va_K.moved hW.alike hK9, hD9⟩⟩, hS.F ht⟩) hS.2.2 dX12_role_70
      · refine lv_iload_n hx hb dX12_role_24 rfl (lv_at hl 3 rfl) ?_
        refine lv_iconst (v := 2) hx hb dX12_role_25 (by decide) ?_
        refine lv_icmp_le (tgt := 33) hx hb dX12_role_26 (by decide) (fun c_12 => ?_) (fun c_12 => ?_)
        · exact absurd ⟨(er_1.elim (fun z => absurd z.1 c_2) And.right), (er_5.elim (fun z => absurd z.1 c_6) And.right), c_9, Int32.not_lt.mpr c_12⟩ hok
        · refine lv_iconst (v := 1) hx hb dX12_role_29 (by decide) ?_
          refine lv_goto (tgt := 63) hx hb dX12_role_30 (by decide) ?_
          have hPc := hP.sub (ws' := [(m0, .inr (12, [.int th, .ref lr, .ref ld, .ref o1, .int (-1), .int (-1), .int 0, .ref o2, .ref o3, .ref o4, .ref o5, .ref o6, .ref o7, .ref o8, .ref o9, .ref o10, .int 0, .int 0, .null, .int 0, .int 45, .ref t1, .ref t2, .ref t3, .ref t4, .ref t5]))]) [0] rfl
          have hKc := hK.sub (tys' := []) [] rfl
          have hDc := hD.sub (ws' := [(m0, .inr (12, [.int th, .ref lr, .ref ld, .ref o1, .int (-1), .int (-1), .int 0, .ref o2, .ref o3, .ref o4, .ref o5, .ref o6, .ref o7, .ref o8, .ref o9, .ref o10, .int 0, .int 0, .null, .int 0, .int 45, .ref t1, .ref t2, .ref t3, .ref t4, .ref t5]))]) [0] (by decide) rfl
          have hFc := va_free (wc := [(m0, .inr (12, [.int th, .ref lr, .ref ld, .ref o1, .int (-1), .int (-1), .int 0, .ref o2, .ref o3, .ref o4, .ref o5, .ref o6, .ref o7, .ref o8, .ref o9, .ref o10, .int 0, .int 0, .null, .int 0, .int 45, .ref t1, .ref t2, .ref t3, .ref t4, .ref t5]))]) hD hS hA [0] rfl
          refine va_calli (va_runV (As := [.int 1]) (rest := []) ⟨hx, hb, hml, hown, hq⟩ (c_isWrong1 l hst tE adK adV dC dI m0 lr ld o1 o2 o3 o4 o5 o6 o7 o8 o9 o10 t1 t2 t3 t4 t5 th H.size) (tcV 1 hq q_1488 q_12 q_1485 q_1487 qp_22 rfl rfl (by decide +kernel) ⟨Nat.le_of_ble_eq_true rfl, Nat.le_of_ble_eq_true rfl⟩) (pre.V (va_recv hK hP (ci := 12) (q0 := 0) rfl rfl) (pre.of hPc hDc hKc ham hS hFc)) rfl rfl hl.1 rfl (lv_room (Nat.le_of_ble_eq_true rfl)) dX12_role_63 ⟨Nat.le_of_ble_eq_true rfl, Nat.le_of_ble_eq_true rfl⟩) hS (fun q _ h => hFc q h) hFc (fun r_13 u t H1 locs ht hvm hw hB hz1 hk1 hS => ?_)
          obtain ⟨hP1, hK1, hD1⟩ := hB
          rw [ht] at hP1
          have hK1 := va_K.moved hvm.symm hK1
          obtain ⟨hP, hD⟩ := va_join (wr := [(lr, .inr (14, [.int 0, .ref tE, .int 0])), (ld, .inr (14, [.int 0, .ref tE, .int 0]))]) (w1 := [(m0, .inr (12, [.int 1, .ref lr, .ref ld, .ref o1, .int (-1), .int (-1), .int 0, .ref o2, .ref o3, .ref o4, .ref o5, .ref o6, .ref o7, .ref o8, .ref o9, .ref o10, .int 0, .int 0, .null, .int 0, .int 45, .ref t1, .ref t2, .ref t3, .ref t4, .ref t5]))]) (wc := [(m0, .inr (12, [.int th, .ref lr, .ref ld, .ref o1, .int (-1), .int (-1), .int 0, .ref o2, .ref o3, .ref o4, .ref o5, .ref o6, .ref o7, .ref o8, .ref o9, .ref o10, .int 0, .int 0, .null, .int 0, .int 45, .ref t1, .ref t2, .ref t3, .ref t4, .ref t5]))]) hP hD [0] [1, 2] rfl rfl (by decide) (by decide) hk1 hFc hP1 hD1
          have hK := (hK.sub (tys' := []) [] rfl).app hK1
          generalize H1 = H at hP hS ⊢
          have hP : va_P (dC, dI) cls [(lr, .inr (14, [.int 0, .ref tE, .int 0])), (ld, .inr (14, [.int 0, .ref tE, .int 0])), (m0, .inr (12, [.int 1, .ref lr, .ref ld, .ref o1, .int (-1), .int (-1), .int 0, .ref o2, .ref o3, .ref o4, .ref o5, .ref o6, .ref o7, .ref o8, .ref o9, .ref o10, .int 0, .int 0, .null, .int 0, .int 45, .ref t1, .ref t2, .ref t3, .ref t4, .ref t5]))] H := hP
          have hD : va_D A [(lr, .inr (14, [.int 0, .ref tE, .int 0])), (ld, .inr (14, [.int 0, .ref tE, .int 0])), (m0, .inr (12, [.int 1, .ref lr, .ref ld, .ref o1, .int (-1), .int (-1), .int 0, .ref o2, .ref o3, .ref o4, .ref o5, .ref o6, .ref o7, .ref o8, .ref o9, .ref o10, .int 0, .int 0, .null, .int 0, .int 45, .ref t1, .ref t2, .ref t3, .ref t4, .ref t5]))] := hD
          have hK : va_K (dC, dI) cls [] s := hK
          refine W.widen (k := 0) (n := 0) (Nat.le_of_ble_eq_true rfl) (Nat.le_of_ble_eq_true rfl) ?_
          have hw : r_13 = 1 := hw
          subst hw
          refine lv_if_eq (tgt := 71) hx hb dX12_role_66 (by decide) (fun c_14 => ?_) (fun c_14 => ?_)
          · exact absurd c_14 (by decide)
          · refine lv_iconst (v := 0) hx hb dX12_role_69 (by decide) ?_
            refine W.widen (k := 0) (n := 0) (Nat.le_of_ble_eq_true rfl) (Nat.le_of_ble_eq_true rfl) ?_
            have hP9 := hP.sub (ws' := [(m0, .inr (12, [.int 1, .ref lr, .ref ld, .ref o1, .int (-1), .int (-1), .int 0, .ref o2, .ref o3, .ref o4, .ref o5, .ref o6, .ref o7, .ref o8, .ref o9, .ref o10, .int 0, .int 0, .null, .int 0, .int 45, .ref t1, .ref t2, .ref t3, .ref t4, .ref t5]))]) [2] rfl
            have hD9 := hD.sub (ws' := [(m0, .inr (12, [.int 1, .ref lr, .ref ld, .ref o1, .int (-1), .int (-1), .int 0, .ref o2, .ref o3, .ref o4, .ref o5, .ref o6, .ref o7, .ref o8, .ref o9, .ref o10, .int 0, .int 0, .null, .int 0, .int 45, .ref t1, .ref t2, .ref t3, .ref t4, .ref t5]))]) [2] (by decide) rfl
            have hK9 := hK.sub (tys' := []) [] rfl
            exact W.iret (v := 0) hx hb hr (fun t ht hW => ⟨⟨0, (), rfl, trivial, ⟨by rw [ht]; exact hP9, va_K.moved hW.alike hK9, hD9⟩⟩, hS.F ht⟩) hS.2.2 dX12_role_70
abbrev cX12_livingOf : ByteArray := prog_13_method_23_code
def yX12_livingOf : MethodName := ⟨RX12, "livingOf", "(C)I"⟩
theorem dX12_livingOf_0 : decode cX12_livingOf 0 = .ok (.iconst 0, 1) := by decide +kernel
theorem dX12_livingOf_1 : decode cX12_livingOf 1 = .ok (.istore_n 2, 1) := by decide +kernel
theorem dX12_livingOf_2 : decode cX12_livingOf 2 = .ok (.iconst 0, 1) := by decide +kernel
theorem dX12_livingOf_3 : decode cX12_livingOf 3 = .ok (.istore_n 3, 1) := by decide +kernel
theorem dX12_livingOf_4 : decode cX12_livingOf 4 = .ok (.iload_n 3, 1) := by decide +kernel
theorem dX12_livingOf_5 : decode cX12_livingOf 5 = .ok (.aload_n 0, 1) := by decide +kernel
theorem dX12_livingOf_6 : decode cX12_livingOf 6 = .ok (.getfield 26, 3) := by decide +kernel
theorem dX12_livingOf_9 : decode cX12_livingOf 9 = .ok (.invokeinterface 7 1, 5) := by decide +kernel
theorem dX12_livingOf_14 : decode cX12_livingOf 14 = .ok (.if_icmp .ge 43, 3) := by decide +kernel
theorem dX12_livingOf_57 : decode cX12_livingOf 57 = .ok (.iload_n 2, 1) := by decide +kernel
theorem dX12_livingOf_58 : decode cX12_livingOf 58 = .ok (.ireturn, 1) := by decide +kernel
set_option maxHeartbeats 4000000 in
set_option maxRecDepth 100000 in
theorem c_M_livingOf (l : Launch) (hst : l.stackTraces = false) (tE : Nat) (adK adV : Nat → Nat) (dC : Nat → ClassId) (dI : Nat → Nat → Nat) (m0 : Nat) (lr : Nat) (ld : Nat) (o1 : Nat) (o2 : Nat) (o3 : Nat) (o4 : Nat) (o5 : Nat) (o6 : Nat) (o7 : Nat) (o8 : Nat) (o9 : Nat) (o10 : Nat) (t1 : Nat) (t2 : Nat) (t3 : Nat) (t4 : Nat) (t5 : Nat) (th : Int32) (p1 : Int32) (sz : Nat) : Met l yX12_livingOf (Cond.code yX12_livingOf cX12_livingOf 4 (some .int) :: tw) ({ frames := 1, cells := 0, slots := 0, locals := 20 }) (va_Pc [.ref m0, .int p1] (preR tE adK adV (dC, dI) [(m0, .inr (12, [.int th, .ref lr, .ref ld, .ref o1, .int (-1), .int (-1), .int 0, .ref o2, .ref o3, .ref o4, .ref o5, .ref o6, .ref o7, .ref o8, .ref o9, .ref o10, .int 0, .int 0, .null, .int 0, .int 45, .ref t1, .ref t2, .ref t3, .ref t4, .ref t5])), (ld, .inr (14, [.int 0, .ref tE, .int 0]))] [] sz)) (va_Qi (fun (r : Int32) (_ : Unit) => r = 0) (fun (_ : Unit) (_ : State) => True) (fun q : Nat => sz ≤ q)) 0 0 (fun q : Nat => sz ≤ q) := by
  refine Met.ofW (cc := cX12_livingOf) (maxL := 4) (ret := (some .int)) (by decide) rfl ?_
  intro p e s m args below meth c s₁ B hml hv
  obtain ⟨rfl, hsz, hP, hK, ham⟩ := hv
  have hx := B.exec
  have hb := B.bytes
  have hr := B.returns
  have hts := atoms_spec B.pre
  have hq : ∀ w ∈ tw, w.before _ s = true := fun w h => hts w (List.mem_cons_of_mem _ h)
  have hown : s.vm.findClass RX12 = some m.cls := findClass_of_methodNamed B.named
  have hlocks := B.notSynchronized
  subst hsz
  generalize hAe : (fun q : Nat => s.heap.size ≤ q) = A at ham ⊢
  have hA : ∀ q : Nat, s.heap.size ≤ q → A q := fun q h => by rw [← hAe]; exact h
  have hS : va_S A s.heap s.heap [] := va_S.rf
  have hP : va_P (dC, dI) cls [(m0, .inr (12, [.int th, .ref lr, .ref ld, .ref o1, .int (-1), .int (-1), .int 0, .ref o2, .ref o3, .ref o4, .ref o5, .ref o6, .ref o7, .ref o8, .ref o9, .ref o10, .int 0, .int 0, .null, .int 0, .int 45, .ref t1, .ref t2, .ref t3, .ref t4, .ref t5])), (ld, .inr (14, [.int 0, .ref tE, .int 0]))] s.heap := hP
  have hl := lv_entry ([.ref m0, .int p1]) (n := 4) (Nat.le_of_ble_eq_true rfl)
  rw [lg_entry_eq]
  generalize (lg_sl ([.ref m0, .int p1]) ++ List.replicate (4 - (lg_sl ([.ref m0, .int p1])).length) Slot.unset).toArray = ls at hl ⊢
  have hl : lv_has ls 4 [(0, .ref m0), (1, .int p1)] := hl
  refine lv_iconst (v := 0) hx hb dX12_livingOf_0 (by decide) ?_
  refine lv_istore_n (lv' := [(2, .int 0), (0, .ref m0), (1, .int p1)]) hx hb dX12_livingOf_1 rfl hl (by decide) rfl (fun ls hl => ?_)
  refine lv_iconst (v := 0) hx hb dX12_livingOf_2 (by decide) ?_
  refine lv_istore_n (lv' := [(3, .int 0), (2, .int 0), (0, .ref m0), (1, .int p1)]) hx hb dX12_livingOf_3 rfl hl (by decide) rfl (fun ls hl => ?_)
  refine lv_iload_n hx hb dX12_livingOf_4 rfl (lv_at hl 0 rfl) ?_
  refine lv_aload_n hx hb dX12_livingOf_5 rfl (lv_at hl 2 rfl) ?_
  refine va_get (D := (dC, dI)) (ci := 12) (v := .ref ld) (C := RX12) (T := TX12) (N := 26) hx hb hq i_X12 hown hK hP 0 rfl rfl 2 (by decide) (hq _ q_1306) (fun _ h9 => h9) rfl dX12_livingOf_6 ?_
  have hPc := hP.sub (ws' := [(ld, .inr (14, [.int 0, .ref tE, .int 0]))]) [1] rfl
  have hKc := hK.sub (tys' := []) [] rfl
  refine va_callFi (va_runF (hK.1 14 _ rfl).2 (As := []) (rest := [.int 0]) ⟨hx, hb, hml, hown, hq⟩ (c_size0b l hst tE adK adV dC dI ld s.heap.size) (tcF 0 hq q_1484 q_15 q_1476 q_1482 q_1480 q_1478 q_1477 q_1483 q_1481 q_1479 rfl rfl (by decide +kernel) ⟨Nat.le_of_ble_eq_true rfl, Nat.le_of_ble_eq_true rfl⟩) (preR.V (va_recv hK hP (ci := 14) (q0 := 1) rfl rfl) (preR.of hPc hKc ham hS hA)) rfl rfl hl.1 rfl (lv_room (Nat.le_of_ble_eq_true rfl)) dX12_livingOf_9 ⟨Nat.le_of_ble_eq_true rfl, Nat.le_of_ble_eq_true rfl⟩) hS (fun q _ h => hA q (Nat.le_trans hS.1 h)) (fun q h => hA q (Nat.le_trans hS.1 h)) (fun r_1 u t H1 locs ht hvm hw hB hz1 hk1 hS => ?_)
  have hP : va_P (dC, dI) cls [(m0, .inr (12, [.int th, .ref lr, .ref ld, .ref o1, .int (-1), .int (-1), .int 0, .ref o2, .ref o3, .ref o4, .ref o5, .ref o6, .ref o7, .ref o8, .ref o9, .ref o10, .int 0, .int 0, .null, .int 0, .int 45, .ref t1, .ref t2, .ref t3, .ref t4, .ref t5])), (ld, .inr (14, [.int 0, .ref tE, .int 0]))] H1 := ro_keep hP hk1
  generalize H1 = H at hP hS ⊢
  refine W.widen (k := 0) (n := 0) (Nat.le_of_ble_eq_true rfl) (Nat.le_of_ble_eq_true rfl) ?_
  have hw : r_1 = 0 := hw
  subst hw
  refine lv_icmp_ge (tgt := 57) hx hb dX12_livingOf_14 (by decide) (fun c_2 => ?_) (fun c_2 => ?_)
  · refine lv_iload_n hx hb dX12_livingOf_57 rfl (lv_at hl 1 rfl) ?_
    refine W.widen (k := 0) (n := 0) (Nat.le_of_ble_eq_true rfl) (Nat.le_of_ble_eq_true rfl) ?_
    exact W.iret (v := 0) hx hb hr (fun t ht hW => ⟨⟨0, (), rfl, rfl, trivial⟩, hS.F ht⟩) hS.2.2 dX12_livingOf_58
  · exact absurd c_2 (by decide)
abbrev cX12_living : ByteArray := prog_13_method_37_code
def yX12_living : MethodName := ⟨RX12, "living", "(C)I"⟩
theorem dX12_living_0 : decode cX12_living 0 = .ok (.aload_n 0, 1) := by decide +kernel
theorem dX12_living_1 : decode cX12_living 1 = .ok (.iload_n 1, 1) := by decide +kernel
theorem dX12_living_2 : decode cX12_living 2 = .ok (.bipush 42, 2) := by decide +kernel
theorem dX12_living_4 : decode cX12_living 4 = .ok (.if_icmp .eq 16, 3) := by decide +kernel
theorem dX12_living_20 : decode cX12_living 20 = .ok (.iconst 0, 1) := by decide +kernel
theorem dX12_living_21 : decode cX12_living 21 = .ok (.invokevirtual 110, 3) := by decide +kernel
theorem dX12_living_24 : decode cX12_living 24 = .ok (.ifCond .eq 7, 3) := by decide +kernel
theorem dX12_living_31 : decode cX12_living 31 = .ok (.aload_n 0, 1) := by decide +kernel
theorem dX12_living_32 : decode cX12_living 32 = .ok (.iload_n 1, 1) := by decide +kernel
theorem dX12_living_33 : decode cX12_living 33 = .ok (.invokevirtual 221, 3) := by decide +kernel
theorem q_1784 : (Cond.code yX12_livingOf cX12_livingOf 4 (some .int)) ∈ tw := tw_in (i := 1784) (by decide +kernel) (by decide +kernel)
theorem q_1781 : (Cond.methodLink "NightfallVillageModel" 221 yX12_livingOf) ∈ tw := tw_in (i := 1781) (by decide +kernel) (by decide +kernel)
theorem q_1783 : (Cond.instanceMethod yX12_livingOf) ∈ tw := tw_in (i := 1783) (by decide +kernel) (by decide +kernel)
theorem qp_36 : (Cond.selects yX12_livingOf.cls yX12_livingOf yX12_livingOf) ∈ tw := tw_inP (i := 36) (by decide +kernel) (by decide +kernel)
theorem dX12_living_36 : decode cX12_living 36 = .ok (.ireturn, 1) := by decide +kernel
theorem dX12_living_7 : decode cX12_living 7 = .ok (.ldc 96, 2) := by decide +kernel
theorem dX12_living_9 : decode cX12_living 9 = .ok (.iload_n 1, 1) := by decide +kernel
theorem dX12_living_10 : decode cX12_living 10 = .ok (.invokevirtual 98, 3) := by decide +kernel
theorem dX12_living_13 : decode cX12_living 13 = .ok (.ifCond .ge 7, 3) := by decide +kernel
set_option maxHeartbeats 4000000 in
set_option maxRecDepth 100000 in
theorem c_M_living_ok (l : Launch) (hst : l.stackTraces = false) (tE : Nat) (adK adV : Nat → Nat) (dC : Nat → ClassId) (dI : Nat → Nat → Nat) (m0 : Nat) (lr : Nat) (ld : Nat) (o1 : Nat) (o2 : Nat) (o3 : Nat) (o4 : Nat) (o5 : Nat) (o6 : Nat) (o7 : Nat) (o8 : Nat) (o9 : Nat) (o10 : Nat) (t1 : Nat) (t2 : Nat) (t3 : Nat) (t4 : Nat) (t5 : Nat) (th : Int32) (p1 : Int32) (hok : okL p1) (sz : Nat) : Met l yX12_living (Cond.code yX12_living cX12_living 2 (some .int) :: tw) ({ frames := 4, cells := 0, slots := 0, locals := 91 }) (va_Pc [.ref m0, .int p1] (pre tE adK adV (dC, dI) [(m0, .inr (12, [.int th, .ref lr, .ref ld, .ref o1, .int (-1), .int (-1), .int 0, .ref o2, .ref o3, .ref o4, .ref o5, .ref o6, .ref o7, .ref o8, .ref o9, .ref o10, .int 0, .int 0, .null, .int 0, .int 45, .ref t1, .ref t2, .ref t3, .ref t4, .ref t5])), (lr, .inr (14, [.int 0, .ref tE, .int 0])), (ld, .inr (14, [.int 0, .ref tE, .int 0]))] [] sz)) (va_Qi (fun (r : Int32) (_ : Unit) => r = 0) (fun (_ : Unit) (t : State) => va_P (dC, dI) cls [(m0, .inr (12, [.int 0, .ref lr, .ref ld, .ref o1, .int (-1), .int (-1), .int 0, .ref o2, .ref o3, .ref o4, .ref o5, .ref o6, .ref o7, .ref o8, .ref o9, .ref o10, .int 0, .int 0, .null, .int 0, .int 45, .ref t1, .ref t2, .ref t3, .ref t4, .ref t5]))] t.heap ∧ va_K (dC, dI) cls [] t ∧ va_D (va_A [(m0, .inr (12, [.int th, .ref lr, .ref ld, .ref o1, .int (-1), .int (-1), .int 0, .ref o2, .ref o3, .ref o4, .ref o5, .ref o6, .ref o7, .ref o8, .ref o9, .ref o10, .int 0, .int 0, .null, .int 0, .int 45, .ref t1, .ref t2, .ref t3, .ref t4, .ref t5])), (lr, .inr (14, [.int 0, .ref tE, .int 0])), (ld, .inr (14, [.int 0, .ref tE, .int 0]))] sz) [(m0, .inr (12, [.int 0, .ref lr, .ref ld, .ref o1, .int (-1), .int (-1), .int 0, .ref o2, .ref o3, .ref o4, .ref o5, .ref o6, .ref o7, .ref o8, .ref o9, .ref o10, .int 0, .int 0, .null, .int 0, .int 45, .ref t1, .ref t2, .ref t3, .ref t4, .ref t5]))]) (va_A [(m0, .inr (12, [.int th, .ref lr, .ref ld, .ref o1, .int (-1), .int (-1), .int 0, .ref o2, .ref o3, .ref o4, .ref o5, .ref o6, .ref o7, .ref o8, .ref o9, .ref o10, .int 0, .int 0, .null, .int 0, .int 45, .ref t1, .ref t2, .ref t3, .ref t4, .ref t5])), (lr, .inr (14, [.int 0, .ref tE, .int 0])), (ld, .inr (14, [.int 0, .ref tE, .int 0]))] sz)) 0 0 (va_A [(m0, .inr (12, [.int th, .ref lr, .ref ld, .ref o1, .int (-1), .int (-1), .int 0, .ref o2, .ref o3, .ref o4, .ref o5, .ref o6, .ref o7, .ref o8, .ref o9, .ref o10, .int 0, .int 0, .null, .int 0, .int 45, .ref t1, .ref t2, .ref t3, .ref t4, .ref t5])), (lr, .inr (14, [.int 0, .ref tE, .int 0])), (ld, .inr (14, [.int 0, .ref tE, .int 0]))] sz) := by
  refine Met.ofW (cc := cX12_living) (maxL := 2) (ret := (some .int)) (by decide) rfl ?_
  intro p e s m args below meth c s₁ B hml hv
  obtain ⟨rfl, hsz, hP, hK, hD0, ham⟩ := hv
  have hx := B.exec
  have hb := B.bytes
  have hr := B.returns
  have hts := atoms_spec B.pre
  have hq : ∀ w ∈ tw, w.before _ s = true := fun w h => hts w (List.mem_cons_of_mem _ h)
  have hown : s.vm.findClass RX12 = some m.cls := findClass_of_methodNamed B.named
  have hlocks := B.notSynchronized
  subst hsz
  have hD := hD0.self (sz := s.heap.size)
  generalize hAe : va_A [(m0, .inr (12, [.int th, .ref lr, .ref ld, .ref o1, .int (-1), .int (-1), .int 0, .ref o2, .ref o3, .ref o4, .ref o5, .ref o6, .ref o7, .ref o8, .ref o9, .ref o10, .int 0, .int 0, .null, .int 0, .int 45, .ref t1, .ref t2, .ref t3, .ref t4, .ref t5])), (lr, .inr (14, [.int 0, .ref tE, .int 0])), (ld, .inr (14, [.int 0, .ref tE, .int 0]))] s.heap.size = A at hD ham ⊢
  have hA : ∀ q : Nat, s.heap.size ≤ q → A q := fun q h => by rw [← hAe]; exact Or.inr h
  have hS : va_S A s.heap s.heap [] := va_S.rf
  have hP : va_P (dC, dI) cls [(m0, .inr (12, [.int th, .ref lr, .ref ld, .ref o1, .int (-1), .int (-1), .int 0, .ref o2, .ref o3, .ref o4, .ref o5, .ref o6, .ref o7, .ref o8, .ref o9, .ref o10, .int 0, .int 0, .null, .int 0, .int 45, .ref t1, .ref t2, .ref t3, .ref t4, .ref t5])), (lr, .inr (14, [.int 0, .ref tE, .int 0])), (ld, .inr (14, [.int 0, .ref tE, .int 0]))] s.heap := hP
  have hl := lv_entry ([.ref m0, .int p1]) (n := 2) (Nat.le_of_ble_eq_true rfl)
  rw [lg_entry_eq]
  generalize (lg_sl ([.ref m0, .int p1]) ++ List.replicate (2 - (lg_sl ([.ref m0, .int p1])).length) Slot.unset).toArray = ls at hl ⊢
  have hl : lv_has ls 2 [(0, .ref m0), (1, .int p1)] := hl
  refine lv_aload_n hx hb dX12_living_0 rfl (lv_at hl 0 rfl) ?_
  refine lv_iload_n hx hb dX12_living_1 rfl (lv_at hl 1 rfl) ?_
  refine lv_bipush (v := 42) hx hb dX12_living_2 (by decide) ?_
  refine lv_icmp_eq (tgt := 20) hx hb dX12_living_4 (by decide) (fun c_1 => ?_) (fun c_1 => ?_)
  · refine lv_iconst (v := 0) hx hb dX12_living_20 (by decide) ?_
    have hPc := hP.sub (ws' := [(m0, .inr (12, [.int th, .ref lr, .ref ld, .ref o1, .int (-1), .int (-1), .int 0, .ref o2, .ref o3, .ref o4, .ref o5, .ref o6, .ref o7, .ref o8, .ref o9, .ref o10, .int 0, .int 0, .null, .int 0, .int 45, .ref t1, .ref t2, .ref t3, .ref t4, .ref t5]))]) [0] rfl
    have hKc := hK.sub (tys' := []) [] rfl
    have hDc := hD.sub (ws' := [(m0, .inr (12, [.int th, .ref lr, .ref ld, .ref o1, .int (-1), .int (-1), .int 0, .ref o2, .ref o3, .ref o4, .ref o5, .ref o6, .ref o7, .ref o8, .ref o9, .ref o10, .int 0, .int 0, .null, .int 0, .int 45, .ref t1, .ref t2, .ref t3, .ref t4, .ref t5]))]) [0] (by decide) rfl
    have hFc := va_free (wc := [(m0, .inr (12, [.int th, .ref lr, .ref ld, .ref o1, .int (-1), .int (-1), .int 0, .ref o2, .ref o3, .ref o4, .ref o5, .ref o6, .ref o7, .ref o8, .ref o9, .ref o10, .int 0, .int 0, .null, .int 0, .int 45, .ref t1, .ref t2, .ref t3, .ref t4, .ref t5]))]) hD hS hA [0] rfl
    refine va_calli (va_runV (As := [.int 0]) (rest := []) ⟨hx, hb, hml, hown, hq⟩ (c_isWrong0 l hst tE adK adV dC dI m0 lr ld o1 o2 o3 o4 o5 o6 o7 o8 o9 o10 t1 t2 t3 t4 t5 th s.heap.size) (tcV 1 hq q_1488 q_12 q_1485 q_1487 qp_22 rfl rfl (by decide +kernel) ⟨Nat.le_of_ble_eq_true rfl, Nat.le_of_ble_eq_true rfl⟩) (pre.V (va_recv hK hP (ci := 12) (q0 := 0) rfl rfl) (pre.of hPc hDc hKc ham hS hFc)) rfl rfl hl.1 rfl (lv_room (Nat.le_of_ble_eq_true rfl)) dX12_living_21 ⟨Nat.le_of_ble_eq_true rfl, Nat.le_of_ble_eq_true rfl⟩) hS (fun q _ h => hFc q h) hFc (fun r_2 u t H1 locs ht hvm hw hB hz1 hk1 hS => ?_)
    obtain ⟨hP1, hK1, hD1⟩ := hB
    rw [ht] at hP1
    have hK1 := va_K.moved hvm.symm hK1
    obtain ⟨hP, hD⟩ := va_join (wr := [(lr, .inr (14, [.int 0, .ref tE, .int 0])), (ld, .inr (14, [.int 0, .ref tE, .int 0]))]) (w1 := [(m0, .inr (12, [.int 0, .ref lr, .ref ld, .ref o1, .int (-1), .int (-1), .int 0, .ref o2, .ref o3, .ref o4, .ref o5, .ref o6, .ref o7, .ref o8, .ref o9, .ref o10, .int 0, .int 0, .null, .int 0, .int 45, .ref t1, .ref t2, .ref t3, .ref t4, .ref t5]))]) (wc := [(m0, .inr (12, [.int th, .ref lr, .ref ld, .ref o1, .int (-1), .int (-1), .int 0, .ref o2, .ref o3, .ref o4, .ref o5, .ref o6, .ref o7, .ref o8, .ref o9, .ref o10, .int 0, .int 0, .null, .int 0, .int 45, .ref t1, .ref t2, .ref t3, .ref t4, .ref t5]))]) hP hD [0] [1, 2] rfl rfl (by decide) (by decide) hk1 hFc hP1 hD1
    have hK := (hK.sub (tys' := []) [] rfl).app hK1
    generalize H1 = H at hP hS ⊢
    have hP : va_P (dC, dI) cls [(lr, .inr (14, [.int 0, .ref tE, .int 0])), (ld, .inr (14, [.int 0, .ref tE, .int 0])), (m0, .inr (12, [.int 0, .ref lr, .ref ld, .ref o1, .int (-1), .int (-1), .int 0, .ref o2, .ref o3, .ref o4, .ref o5, .ref o6, .ref o7, .ref o8, .ref o9, .ref o10, .int 0, .int 0, .null, .int 0, .int 45, .ref t1, .ref t2, .ref t3, .ref t4, .ref t5]))] H := hP
    have hD : va_D A [(lr, .inr (14, [.int 0, .ref tE, .int 0])), (ld, .inr (14, [.int 0, .ref tE, .int 0])), (m0, .inr (12, [.int 0, .ref lr, .ref ld, .ref o1, .int (-1), .int (-1), .int 0, .ref o2, .ref o3, .ref o4, .ref o5, .ref o6, .ref o7, .ref o8, .ref o9, .ref o10, .int 0, .int 0, .null, .int 0, .int 45, .ref t1, .ref t2, .ref t3, .ref t4, .ref t5]))] := hD
    have hK : va_K (dC, dI) cls [] s := hK
    refine W.widen (k := 0) (n := 0) (Nat.le_of_ble_eq_true rfl) (Nat.le_of_ble_eq_true rfl) ?_
    have hw : r_2 = 0 := hw
    subst hw
    refine lv_if_eq (tgt := 31) hx hb dX12_living_24 (by decide) (fun c_3 => ?_) (fun c_3 => ?_)
    · refine lv_aload_n hx hb dX12_living_31 rfl (lv_at hl 0 rfl) ?_
      refine lv_iload_n hx hb dX12_living_32 rfl (lv_at hl 1 rfl) ?_
      have hPc := hP.sub (ws' := [(m0, .inr (12, [.int 0, .ref lr, .ref ld, .ref o1, .int (-1), .int (-1), .int 0, .ref o2, .ref o3, .ref o4, .ref o5, .ref o6, .ref o7, .ref o8, .ref o9, .ref o10, .int 0, .int 0, .null, .int 0, .int 45, .ref t1, .ref t2, .ref t3, .ref t4, .ref t5])), (ld, .inr (14, [.int 0, .ref tE, .int 0]))]) [2, 1] rfl
      have hKc := hK.sub (tys' := []) [] rfl
      refine va_calli (va_runV (As := [.int p1]) (rest := []) ⟨hx, hb, hml, hown, hq⟩ (c_M_livingOf l hst tE adK adV dC dI m0 lr ld o1 o2 o3 o4 o5 o6 o7 o8 o9 o10 t1 t2 t3 t4 t5 0 p1 H.size) (tcV 1 hq q_1784 q_12 q_1781 q_1783 qp_36 rfl rfl (by decide +kernel) ⟨Nat.le_of_ble_eq_true rfl, Nat.le_of_ble_eq_true rfl⟩) (preR.V (va_recv hK hP (ci := 12) (q0 := 2) rfl rfl) (preR.of hPc hKc ham hS hA)) rfl rfl hl.1 rfl (lv_room (Nat.le_of_ble_eq_true rfl)) dX12_living_33 ⟨Nat.le_of_ble_eq_true rfl, Nat.le_of_ble_eq_true rfl⟩) hS (fun q _ h => hA q (Nat.le_trans hS.1 h)) (fun q h => hA q (Nat.le_trans hS.1 h)) (fun r_4 u t H1 locs ht hvm hw hB hz1 hk1 hS => ?_)
      have hP : va_P (dC, dI) cls [(lr, .inr (14, [.int 0, .ref tE, .int 0])), (ld, .inr (14, [.int 0, .ref tE, .int 0])), (m0, .inr (12, [.int 0, .ref lr, .ref ld, .ref o1, .int (-1), .int (-1), .int 0, .ref o2, .ref o3, .ref o4, .ref o5, .ref o6, .ref o7, .ref o8, .ref o9, .ref o10, .int 0, .int 0, .null, .int 0, .int 45, .ref t1, .ref t2, .ref t3, .ref t4, .ref t5]))] H1 := ro_keep hP hk1
      generalize H1 = H at hP hS ⊢
      refine W.widen (k := 0) (n := 0) (Nat.le_of_ble_eq_true rfl) (Nat.le_of_ble_eq_true rfl) ?_
      have hw : r_4 = 0 := hw
      subst hw
      refine W.widen (k := 0) (n := 0) (Nat.le_of_ble_eq_true rfl) (Nat.le_of_ble_eq_true rfl) ?_
      have hP9 := hP.sub (ws' := [(m0, .inr (12, [.int 0, .ref lr, .ref ld, .ref o1, .int (-1), .int (-1), .int 0, .ref o2, .ref o3, .ref o4, .ref o5, .ref o6, .ref o7, .ref o8, .ref o9, .ref o10, .int 0, .int 0, .null, .int 0, .int 45, .ref t1, .ref t2, .ref t3, .ref t4, .ref t5]))]) [2] rfl
      have hD9 := hD.sub (ws' := [(m0, .inr (12, [.int 0, .ref lr, .ref ld, .ref o1, .int (-1), .int (-1), .int 0, .ref o2, .ref o3, .ref o4, .ref o5, .ref o6, .ref o7, .ref o8, .ref o9, .ref o10, .int 0, .int 0, .null, .int 0, .int 45, .ref t1, .ref t2, .ref t3, .ref t4, .ref t5]))]) [2] (by decide) rfl
      have hK9 := hK.sub (tys' := []) [] rfl
      exact W.iret (v := 0) hx hb hr (fun t ht hW => ⟨⟨0, (), rfl, rfl, ⟨by rw [ht]; exact hP9, va_K.moved hW.alike hK9, hD9⟩⟩, hS.F ht⟩) hS.2.2 dX12_living_36
    · exact absurd c_3 (by decide)
  · refine va_ldcS hx hb hown (ham.2.2.2.2.1.1 _ sr_1387) dX12_living_7 ?_
    refine lv_iload_n hx hb dX12_living_9 rfl (lv_at hl 1 rfl) ?_
    have hPc := hP.sub (ws' := []) [] rfl
    have hKc := hK.sub (tys' := []) [] rfl
    refine va_calli (va_runV (As := [.int p1]) (rest := [.ref m0]) ⟨hx, hb, hml, hown, hq⟩ (c_ix0 l hst tE adK adV dC dI p1 s.heap.size) (tcV 1 hq q_1391 q_23 q_1388 q_1389 q_1390 rfl rfl (by decide +kernel) ⟨Nat.le_of_ble_eq_true rfl, Nat.le_of_ble_eq_true rfl⟩) (preR.V (vk_recv ham.2.2.2.1.2 (i := 0) (by decide) hS) (preR.of hPc hKc ham hS hA)) rfl rfl hl.1 rfl (lv_room (Nat.le_of_ble_eq_true rfl)) dX12_living_10 ⟨Nat.le_of_ble_eq_true rfl, Nat.le_of_ble_eq_true rfl⟩) hS (fun q _ h => hA q (Nat.le_trans hS.1 h)) (fun q h => hA q (Nat.le_trans hS.1 h)) (fun r_5 u t H1 locs ht hvm hw hB hz1 hk1 hS => ?_)
    have hP : va_P (dC, dI) cls [(m0, .inr (12, [.int th, .ref lr, .ref ld, .ref o1, .int (-1), .int (-1), .int 0, .ref o2, .ref o3, .ref o4, .ref o5, .ref o6, .ref o7, .ref o8, .ref o9, .ref o10, .int 0, .int 0, .null, .int 0, .int 45, .ref t1, .ref t2, .ref t3, .ref t4, .ref t5])), (lr, .inr (14, [.int 0, .ref tE, .int 0])), (ld, .inr (14, [.int 0, .ref tE, .int 0]))] H1 := ro_keep hP hk1
    generalize H1 = H at hP hS ⊢
    refine W.widen (k := 0) (n := 0) (Nat.le_of_ble_eq_true rfl) (Nat.le_of_ble_eq_true rfl) ?_
    have er_5 : (r_5 < 0 ∧ ¬ okS p1) ∨ (¬ r_5 < 0 ∧ okS p1) := hw
    refine lv_if_ge (tgt := 20) hx hb dX12_living_13 (by decide) (fun c_6 => ?_) (fun c_6 => ?_)
    · refine lv_iconst (v := 0) hx hb dX12_living_20 (by decide) ?_
      have hPc := hP.sub (ws' := [(m0, .inr (12, [.int th, .ref lr, .ref ld, .ref o1, .int (-1), .int (-1), .int 0, .ref o2, .ref o3, .ref o4, .ref o5, .ref o6, .ref o7, .ref o8, .ref o9, .ref o10, .int 0, .int 0, .null, .int 0, .int 45, .ref t1, .ref t2, .ref t3, .ref t4, .ref t5]))]) [0] rfl
      have hKc := hK.sub (tys' := []) [] rfl
      have hDc := hD.sub (ws' := [(m0, .inr (12, [.int th, .ref lr, .ref ld, .ref o1, .int (-1), .int (-1), .int 0, .ref o2, .ref o3, .ref o4, .ref o5, .ref o6, .ref o7, .ref o8, .ref o9, .ref o10, .int 0, .int 0, .null, .int 0, .int 45, .ref t1, .ref t2, .ref t3, .ref t4, .ref t5]))]) [0] (by decide) rfl
      have hFc := va_free (wc := [(m0, .inr (12, [.int th, .ref lr, .ref ld, .ref o1, .int (-1), .int (-1), .int 0, .ref o2, .ref o3, .ref o4, .ref o5, .ref o6, .ref o7, .ref o8, .ref o9, .ref o10, .int 0, .int 0, .null, .int 0, .int 45, .ref t1, .ref t2, .ref t3, .ref t4, .ref t5]))]) hD hS hA [0] rfl
      refine va_calli (va_runV (As := [.int 0]) (rest := []) ⟨hx, hb, hml, hown, hq⟩ (c_isWrong0 l hst tE adK adV dC dI m0 lr ld o1 o2 o3 o4 o5 o6 o7 o8 o9 o10 t1 t2 t3 t4 t5 th H.size) (tcV 1 hq q_1488 q_12 q_1485 q_1487 qp_22 rfl rfl (by decide +kernel) ⟨Nat.le_of_ble_eq_true rfl, Nat.le_of_ble_eq_true rfl⟩) (pre.V (va_recv hK hP (ci := 12) (q0 := 0) rfl rfl) (pre.of hPc hDc hKc ham hS hFc)) rfl rfl hl.1 rfl (lv_room (Nat.le_of_ble_eq_true rfl)) dX12_living_21 ⟨Nat.le_of_ble_eq_true rfl, Nat.le_of_ble_eq_true rfl⟩) hS (fun q _ h => hFc q h) hFc (fun r_7 u t H1 locs ht hvm hw hB hz1 hk1 hS => ?_)
      obtain ⟨hP1, hK1, hD1⟩ := hB
      rw [ht] at hP1
      have hK1 := va_K.moved hvm.symm hK1
      obtain ⟨hP, hD⟩ := va_join (wr := [(lr, .inr (14, [.int 0, .ref tE, .int 0])), (ld, .inr (14, [.int 0, .ref tE, .int 0]))]) (w1 := [(m0, .inr (12, [.int 0, .ref lr, .ref ld, .ref o1, .int (-1), .int (-1), .int 0, .ref o2, .ref o3, .ref o4, .ref o5, .ref o6, .ref o7, .ref o8, .ref o9, .ref o10, .int 0, .int 0, .null, .int 0, .int 45, .ref t1, .ref t2, .ref t3, .ref t4, .ref t5]))]) (wc := [(m0, .inr (12, [.int th, .ref lr, .ref ld, .ref o1, .int (-1), .int (-1), .int 0, .ref o2, .ref o3, .ref o4, .ref o5, .ref o6, .ref o7, .ref o8, .ref o9, .ref o10, .int 0, .int 0, .null, .int 0, .int 45, .ref t1, .ref t2, .ref t3, .ref t4, .ref t5]))]) hP hD [0] [1, 2] rfl rfl (by decide) (by decide) hk1 hFc hP1 hD1
      have hK := (hK.sub (tys' := []) [] rfl).app hK1
      generalize H1 = H at hP hS ⊢
      have hP : va_P (dC, dI) cls [(lr, .inr (14, [.int 0, .ref tE, .int 0])), (ld, .inr (14, [.int 0, .ref tE, .int 0])), (m0, .inr (12, [.int 0, .ref lr, .ref ld, .ref o1, .int (-1), .int (-1), .int 0, .ref o2, .ref o3, .ref o4, .ref o5, .ref o6, .ref o7, .ref o8, .ref o9, .ref o10, .int 0, .int 0, .null, .int 0, .int 45, .ref t1, .ref t2, .ref t3, .ref t4, .ref t5]))] H := hP
      have hD : va_D A [(lr, .inr (14, [.int 0, .ref tE, .int 0])), (ld, .inr (14, [.int 0, .ref tE, .int 0])), (m0, .inr (12, [.int 0, .ref lr, .ref ld, .ref o1, .int (-1), .int (-1), .int 0, .ref o2, .ref o3, .ref o4, .ref o5, .ref o6, .ref o7, .ref o8, .ref o9, .ref o10, .int 0, .int 0, .null, .int 0, .int 45, .ref t1, .ref t2, .ref t3, .ref t4, .ref t5]))] := hD
      have hK : va_K (dC, dI) cls [] s := hK
      refine W.widen (k := 0) (n := 0) (Nat.le_of_ble_eq_true rfl) (Nat.le_of_ble_eq_true rfl) ?_
      have hw : r_7 = 0 := hw
      subst hw
      refine lv_if_eq (tgt := 31) hx hb dX12_living_24 (by decide) (fun c_8 => ?_) (fun c_8 => ?_)
      · refine lv_aload_n hx hb dX12_living_31 rfl (lv_at hl 0 rfl) ?_
        refine lv_iload_n hx hb dX12_living_32 rfl (lv_at hl 1 rfl) ?_
        have hPc := hP.sub (ws' := [(m0, .inr (12, [.int 0, .ref lr, .ref ld, .ref o1, .int (-1), .int (-1), .int 0, .ref o2, .ref o3, .ref o4, .ref o5, .ref o6, .ref o7, .ref o8, .ref o9, .ref o10, .int 0, .int 0, .null, .int 0, .int 45, .ref t1, .ref t2, .ref t3, .ref t4, .ref t5])), (ld, .inr (14, [.int 0, .ref tE, .int 0]))]) [2, 1] rfl
        have hKc := hK.sub (tys' := []) [] rfl
        refine va_calli (va_runV (As := [.int p1]) (rest := []) ⟨hx, hb, hml, hown, hq⟩ (c_M_livingOf l hst tE adK adV dC dI m0 lr ld o1 o2 o3 o4 o5 o6 o7 o8 o9 o10 t1 t2 t3 t4 t5 0 p1 H.size) (tcV 1 hq q_1784 q_12 q_1781 q_1783 qp_36 rfl rfl (by decide +kernel) ⟨Nat.le_of_ble_eq_true rfl, Nat.le_of_ble_eq_true rfl⟩) (preR.V (va_recv hK hP (ci := 12) (q0 := 2) rfl rfl) (preR.of hPc hKc ham hS hA)) rfl rfl hl.1 rfl (lv_room (Nat.le_of_ble_eq_true rfl)) dX12_living_33 ⟨Nat.le_of_ble_eq_true rfl, Nat.le_of_ble_eq_true rfl⟩) hS (fun q _ h => hA q (Nat.le_trans hS.1 h)) (fun q h => hA q (Nat.le_trans hS.1 h)) (fun r_9 u t H1 locs ht hvm hw hB hz1 hk1 hS => ?_)
        have hP : va_P (dC, dI) cls [(lr, .inr (14, [.int 0, .ref tE, .int 0])), (ld, .inr (14, [.int 0, .ref tE, .int 0])), (m0, .inr (12, [.int 0, .ref lr, .ref ld, .ref o1, .int (-1), .int (-1), .int 0, .ref o2, .ref o3, .ref o4, .ref o5, .ref o6, .ref o7, .ref o8, .ref o9, .ref o10, .int 0, .int 0, .null, .int 0, .int 45, .ref t1, .ref t2, .ref t3, .ref t4, .ref t5]))] H1 := ro_keep hP hk1
        generalize H1 = H at hP hS ⊢
        refine W.widen (k := 0) (n := 0) (Nat.le_of_ble_eq_true rfl) (Nat.le_of_ble_eq_true rfl) ?_
        have hw : r_9 = 0 := hw
        subst hw
        refine W.widen (k := 0) (n := 0) (Nat.le_of_ble_eq_true rfl) (Nat.le_of_ble_eq_true rfl) ?_
        have hP9 := hP.sub (ws' := [(m0, .inr (12, [.int 0, .ref lr, .ref ld, .ref o1, .int (-1), .int (-1), .int 0, .ref o2, .ref o3, .ref o4, .ref o5, .ref o6, .ref o7, .ref o8, .ref o9, .ref o10, .int 0, .int 0, .null, .int 0, .int 45, .ref t1, .ref t2, .ref t3, .ref t4, .ref t5]))]) [2] rfl
        have hD9 := hD.sub (ws' := [(m0, .inr (12, [.int 0, .ref lr, .ref ld, .ref o1, .int (-1), .int (-1), .int 0, .ref o2, .ref o3, .ref o4, .ref o5, .ref o6, .ref o7, .ref o8, .ref o9, .ref o10, .int 0, .int 0, .null, .int 0, .int 45, .ref t1, .ref t2, .ref t3, .ref t4, .ref t5]))]) [2] (by decide) rfl
        have hK9 := hK.sub (tys' := []) [] rfl
        exact W.iret (v := 0) hx hb hr (fun t ht hW => ⟨⟨0, (), rfl, rfl, ⟨by rw [ht]; exact hP9, va_K.moved hW.alike hK9, hD9⟩⟩, hS.F ht⟩) hS.2.2 dX12_living_36
      · exact absurd c_8 (by decide)
    · exact (hok.elim (fun h => er_5.elim (fun z => z.2 h) (fun z => c_6 (Int32.not_lt.mp z.1))) c_1).elim
theorem dX12_living_16 : decode cX12_living 16 = .ok (.iconst 1, 1) := by decide +kernel
theorem dX12_living_17 : decode cX12_living 17 = .ok (.goto 4, 3) := by decide +kernel
theorem dX12_living_27 : decode cX12_living 27 = .ok (.iconst 0, 1) := by decide +kernel
theorem dX12_living_28 : decode cX12_living 28 = .ok (.goto 8, 3) := by decide +kernel
set_option maxHeartbeats 4000000 in
set_option maxRecDepth 100000 in
theorem c_M_living_no (l : Launch) (hst : l.stackTraces = false) (tE : Nat) (adK adV : Nat → Nat) (dC : Nat → ClassId) (dI : Nat → Nat → Nat) (m0 : Nat) (lr : Nat) (ld : Nat) (o1 : Nat) (o2 : Nat) (o3 : Nat) (o4 : Nat) (o5 : Nat) (o6 : Nat) (o7 : Nat) (o8 : Nat) (o9 : Nat) (o10 : Nat) (t1 : Nat) (t2 : Nat) (t3 : Nat) (t4 : Nat) (t5 : Nat) (th : Int32) (p1 : Int32) (hok : ¬ okL p1) (sz : Nat) : Met l yX12_living (Cond.code yX12_living cX12_living 2 (some .int) :: tw) ({ frames := 4, cells := 0, slots := 0, locals := 91 }) (va_Pc [.ref m0, .int p1] (pre tE adK adV (dC, dI) [(m0, .inr (12, [.int th, .ref lr, .ref ld, .ref o1, .int (-1), .int (-1), .int 0, .ref o2, .ref o3, .ref o4, .ref o5, .ref o6, .ref o7, .ref o8, .ref o9, .ref o10, .int 0, .int 0, .null, .int 0, .int 45, .ref t1, .ref t2, .ref t3, .ref t4, .ref t5])), (lr, .inr (14, [.int 0, .ref tE, .int 0])), (ld, .inr (14, [.int 0, .ref tE, .int 0]))] [] sz)) (va_Qi (fun (r : Int32) (_ : Unit) => True) (fun (_ : Unit) (t : State) => va_P (dC, dI) cls [(m0, .inr (12, [.int 1, .ref lr, .ref ld, .ref o1, .int (-1), .int (-1), .int 0, .ref o2, .ref o3, .ref o4, .ref o5, .ref o6, .ref o7, .ref o8, .ref o9, .ref o10, .int 0, .int 0, .null, .int 0, .int 45, .ref t1, .ref t2, .ref t3, .ref t4, .ref t5]))] t.heap ∧ va_K (dC, dI) cls [] t ∧ va_D (va_A [(m0, .inr (12, [.int th, .ref lr, .ref ld, .ref o1, .int (-1), .int (-1), .int 0, .ref o2, .ref o3, .ref o4, .ref o5, .ref o6, .ref o7, .ref o8, .ref o9, .ref o10, .int 0, .int 0, .null, .int 0, .int 45, .ref t1, .ref t2, .ref t3, .ref t4, .ref t5])), (lr, .inr (14, [.int 0, .ref tE, .int 0])), (ld, .inr (14, [.int 0, .ref tE, .int 0]))] sz) [(m0, .inr (12, [.int 1, .ref lr, .ref ld, .ref o1, .int (-1), .int (-1), .int 0, .ref o2, .ref o3, .ref o4, .ref o5, .ref o6, .ref o7, .ref o8, .ref o9, .ref o10, .int 0, .int 0, .null, .int 0, .int 45, .ref t1, .ref t2, .ref t3, .ref t4, .ref t5]))]) (va_A [(m0, .inr (12, [.int th, .ref lr, .ref ld, .ref o1, .int (-1), .int (-1), .int 0, .ref o2, .ref o3, .ref o4, .ref o5, .ref o6, .ref o7, .ref o8, .ref o9, .ref o10, .int 0, .int 0, .null, .int 0, .int 45, .ref t1, .ref t2, .ref t3, .ref t4, .ref t5])), (lr, .inr (14, [.int 0, .ref tE, .int 0])), (ld, .inr (14, [.int 0, .ref tE, .int 0]))] sz)) 0 0 (va_A [(m0, .inr (12, [.int th, .ref lr, .ref ld, .ref o1, .int (-1), .int (-1), .int 0, .ref o2, .ref o3, .ref o4, .ref o5, .ref o6, .ref o7, .ref o8, .ref o9, .ref o10, .int 0, .int 0, .null, .int 0, .int 45, .ref t1, .ref t2, .ref t3, .ref t4, .ref t5])), (lr, .inr (14, [.int 0, .ref tE, .int 0])), (ld, .inr (14, [.int 0, .ref tE, .int 0]))] sz) := by
  refine Met.ofW (cc := cX12_living) (maxL := 2) (ret := (some .int)) (by decide) rfl ?_
  intro p e s m args below meth c s₁ B hml hv
  obtain ⟨rfl, hsz, hP, hK, hD0, ham⟩ := hv
  have hx := B.exec
  have hb := B.bytes
  have hr := B.returns
  have hts := atoms_spec B.pre
  have hq : ∀ w ∈ tw, w.before _ s = true := fun w h => hts w (List.mem_cons_of_mem _ h)
  have hown : s.vm.findClass RX12 = some m.cls := findClass_of_methodNamed B.named
  have hlocks := B.notSynchronized
  subst hsz
  have hD := hD0.self (sz := s.heap.size)
  generalize hAe : va_A [(m0, .inr (12, [.int th, .ref lr, .ref ld, .ref o1, .int (-1), .int (-1), .int 0, .ref o2, .ref o3, .ref o4, .ref o5, .ref o6, .ref o7, .ref o8, .ref o9, .ref o10, .int 0, .int 0, .null, .int 0, .int 45, .ref t1, .ref t2, .ref t3, .ref t4, .ref t5])), (lr, .inr (14, [.int 0, .ref tE, .int 0])), (ld, .inr (14, [.int 0, .ref tE, .int 0]))] s.heap.size = A at hD ham ⊢
  have hA : ∀ q : Nat, s.heap.size ≤ q → A q := fun q h => by rw [← hAe]; exact Or.inr h
  have hS : va_S A s.heap s.heap [] := va_S.rf
  have hP : va_P (dC, dI) cls [(m0, .inr (12, [.int th, .ref lr, .ref ld, .ref o1, .int (-1), .int (-1), .int 0, .ref o2, .ref o3, .ref o4, .ref o5, .ref o6, .ref o7, .ref o8, .ref o9, .ref o10, .int 0, .int 0, .null, .int 0, .int 45, .ref t1, .ref t2, .ref t3, .ref t4, .ref t5])), (lr, .inr (14, [.int 0, .ref tE, .int 0])), (ld, .inr (14, [.int 0, .ref tE, .int 0]))] s.heap := hP
  have hl := lv_entry ([.ref m0, .int p1]) (n := 2) (Nat.le_of_ble_eq_true rfl)
  rw [lg_entry_eq]
  generalize (lg_sl ([.ref m0, .int p1]) ++ List.replicate (2 - (lg_sl ([.ref m0, .int p1])).length) Slot.unset).toArray = ls at hl ⊢
  have hl : lv_has ls 2 [(0, .ref m0), (1, .int p1)] := hl
  refine lv_aload_n hx hb dX12_living_0 rfl (lv_at hl 0 rfl) ?_
  refine lv_iload_n hx hb dX12_living_1 rfl (lv_at hl 1 rfl) ?_
  refine lv_bipush (v := 42) hx hb dX12_living_2 (by decide) ?_
  refine lv_icmp_eq (tgt := 20) hx hb dX12_living_4 (by decide) (fun c_1 => ?_) (fun c_1 => ?_)
  · exact absurd (Or.inr c_1) hok
  · refine va_ldcS hx hb hown (ham.2.2.2.2.1.1 _ sr_1387) dX12_living_7 ?_
    refine lv_iload_n hx hb dX12_living_9 rfl (lv_at hl 1 rfl) ?_
    have hPc := hP.sub (ws' := []) [] rfl
    have hKc := hK.sub (tys' := []) [] rfl
    refine va_calli (va_runV (As := [.int p1]) (rest := [.ref m0]) ⟨hx, hb, hml, hown, hq⟩ (c_ix0 l hst tE adK adV dC dI p1 s.heap.size) (tcV 1 hq q_1391 q_23 q_1388 q_1389 q_1390 rfl rfl (by decide +kernel) ⟨Nat.le_of_ble_eq_true rfl, Nat.le_of_ble_eq_true rfl⟩) (preR.V (vk_recv ham.2.2.2.1.2 (i := 0) (by decide) hS) (preR.of hPc hKc ham hS hA)) rfl rfl hl.1 rfl (lv_room (Nat.le_of_ble_eq_true rfl)) dX12_living_10 ⟨Nat.le_of_ble_eq_true rfl, Nat.le_of_ble_eq_true rfl⟩) hS (fun q _ h => hA q (Nat.le_trans hS.1 h)) (fun q h => hA q (Nat.le_trans hS.1 h)) (fun r_2 u t H1 locs ht hvm hw hB hz1 hk1 hS => ?_)
    have hP : va_P (dC, dI) cls [(m0, .inr (12, [.int th, .ref lr, .ref ld, .ref o1, .int (-1), .int (-1), .int 0, .ref o2, .ref o3, .ref o4, .ref o5, .ref o6, .ref o7, .ref o8, .ref o9, .ref o10, .int 0, .int 0, .null, .int 0, .int 45, .ref t1, .ref t2, .ref t3, .ref t4, .ref t5])), (lr, .inr (14, [.int 0, .ref tE, .int 0])), (ld, .inr (14, [.int 0, .ref tE, .int 0]))] H1 := ro_keep hP hk1
    generalize H1 = H at hP hS ⊢
    refine W.widen (k := 0) (n := 0) (Nat.le_of_ble_eq_true rfl) (Nat.le_of_ble_eq_true rfl) ?_
    have er_2 : (r_2 < 0 ∧ ¬ okS p1) ∨ (¬ r_2 < 0 ∧ okS p1) := hw
    refine lv_if_ge (tgt := 20) hx hb dX12_living_13 (by decide) (fun c_3 => ?_) (fun c_3 => ?_)
    · exact absurd (Or.inl (er_2.elim (fun z => absurd z.1 (Int32.not_lt.mpr c_3)) And.right)) hok
    · refine lv_iconst (v := 1) hx hb dX12_living_16 (by decide) ?_
      refine lv_goto (tgt := 21) hx hb dX12_living_17 (by decide) ?_
      have hPc := hP.sub (ws' := [(m0, .inr (12, [.int th, .ref lr, .ref ld, .ref o1, .int (-1), .int (-1), .int 0, .ref o2, .ref o3, .ref o4, .ref o5, .ref o6, .ref o7, .ref o8, .ref o9, .ref o10, .int 0, .int 0, .null, .int 0, .int 45, .ref t1, .ref t2, .ref t3, .ref t4, .ref t5]))]) [0] rfl
      have hKc := hK.sub (tys' := []) [] rfl
      have hDc := hD.sub (ws' := [(m0, .inr (12, [.int th, .ref lr, .ref ld, .ref o1, .int (-1), .int (-1), .int 0, .ref o2, .ref o3, .ref o4, .ref o5, .ref o6, .ref o7, .ref o8, .ref o9, .ref o10, .int 0, .int 0, .null, .int 0, .int 45, .ref t1, .ref t2, .ref t3, .ref t4, .ref t5]))]) [0] (by decide) rfl
      have hFc := va_free (wc := [(m0, .inr (12, [.int th, .ref lr, .ref ld, .ref o1, .int (-1), .int (-1), .int 0, .ref o2, .ref o3, .ref o4, .ref o5, .ref o6, .ref o7, .ref o8, .ref o9, .ref o10, .int 0, .int 0, .null, .int 0, .int 45, .ref t1, .ref t2, .ref t3, .ref t4, .ref t5]))]) hD hS hA [0] rfl
      refine va_calli (va_runV (As := [.int 1]) (rest := []) ⟨hx, hb, hml, hown, hq⟩ (c_isWrong1 l hst tE adK adV dC dI m0 lr ld o1 o2 o3 o4 o5 o6 o7 o8 o9 o10 t1 t2 t3 t4 t5 th H.size) (tcV 1 hq q_1488 q_12 q_1485 q_1487 qp_22 rfl rfl (by decide +kernel) ⟨Nat.le_of_ble_eq_true rfl, Nat.le_of_ble_eq_true rfl⟩) (pre.V (va_recv hK hP (ci := 12) (q0 := 0) rfl rfl) (pre.of hPc hDc hKc ham hS hFc)) rfl rfl hl.1 rfl (lv_room (Nat.le_of_ble_eq_true rfl)) dX12_living_21 ⟨Nat.le_of_ble_eq_true rfl, Nat.le_of_ble_eq_true rfl⟩) hS (fun q _ h => hFc q h) hFc (fun r_4 u t H1 locs ht hvm hw hB hz1 hk1 hS => ?_)
      obtain ⟨hP1, hK1, hD1⟩ := hB
      rw [ht] at hP1
      have hK1 := va_K.moved hvm.symm hK1
      obtain ⟨hP, hD⟩ := va_join (wr := [(lr, .inr (14, [.int 0, .ref tE, .int 0])), (ld, .inr (14, [.int 0, .ref tE, .int 0]))]) (w1 := [(m0, .inr (12, [.int 1, .ref lr, .ref ld, .ref o1, .int (-1), .int (-1), .int 0, .ref o2, .ref o3, .ref o4, .ref o5, .ref o6, .ref o7, .ref o8, .ref o9, .ref o10, .int 0, .int 0, .null, .int 0, .int 45, .ref t1, .ref t2, .ref t3, .ref t4, .ref t5]))]) (wc := [(m0, .inr (12, [.int th, .ref lr, .ref ld, .ref o1, .int (-1), .int (-1), .int 0, .ref o2, .ref o3, .ref o4, .ref o5, .ref o6, .ref o7, .ref o8, .ref o9, .ref o10, .int 0, .int 0, .null, .int 0, .int 45, .ref t1, .ref t2, .ref t3, .ref t4, .ref t5]))]) hP hD [0] [1, 2] rfl rfl (by decide) (by decide) hk1 hFc hP1 hD1
      have hK := (hK.sub (tys' := []) [] rfl).app hK1
      generalize H1 = H at hP hS ⊢
      have hP : va_P (dC, dI) cls [(lr, .inr (14, [.int 0, .ref tE, .int 0])), (ld, .inr (14, [.int 0, .ref tE, .int 0])), (m0, .inr (12, [.int 1, .ref lr, .ref ld, .ref o1, .int (-1), .int (-1), .int 0, .ref o2, .ref o3, .ref o4, .ref o5, .ref o6, .ref o7, .ref o8, .ref o9, .ref o10, .int 0, .int 0, .null, .int 0, .int 45, .ref t1, .ref t2, .ref t3, .ref t4, .ref t5]))] H := hP
      have hD : va_D A [(lr, .inr (14, [.int 0, .ref tE, .int 0])), (ld, .inr (14, [.int 0, .ref tE, .int 0])), (m0, .inr (12, [.int 1, .ref lr, .ref ld, .ref o1, .int (-1), .int (-1), .int 0, .ref o2, .ref o3, .ref o4, .ref o5, .ref o6, .ref o7, .ref o8, .ref o9, .ref o10, .int 0, .int 0, .null, .int 0, .int 45, .ref t1, .ref t2, .ref t3, .ref t4, .ref t5]))] := hD
      have hK : va_K (dC, dI) cls [] s := hK
      refine W.widen (k := 0) (n := 0) (Nat.le_of_ble_eq_true rfl) (Nat.le_of_ble_eq_true rfl) ?_
      have hw : r_4 = 1 := hw
      subst hw
      refine lv_if_eq (tgt := 31) hx hb dX12_living_24 (by decide) (fun c_5 => ?_) (fun c_5 => ?_)
      · exact absurd c_5 (by decide)
      · refine lv_iconst (v := 0) hx hb dX12_living_27 (by decide) ?_
        refine lv_goto (tgt := 36) hx hb dX12_living_28 (by decide) ?_
        refine W.widen (k := 0) (n := 0) (Nat.le_of_ble_eq_true rfl) (Nat.le_of_ble_eq_true rfl) ?_
        have hP9 := hP.sub (ws' := [(m0, .inr (12, [.int 1, .ref lr, .ref ld, .ref o1, .int (-1), .int (-1), .int 0, .ref o2, .ref o3, .ref o4, .ref o5, .ref o6, .ref o7, .ref o8, .ref o9, .ref o10, .int 0, .int 0, .null, .int 0, .int 45, .ref t1, .ref t2, .ref t3, .ref t4, .ref t5]))]) [2] rfl
        have hD9 := hD.sub (ws' := [(m0, .inr (12, [.int 1, .ref lr, .ref ld, .ref o1, .int (-1), .int (-1), .int 0, .ref o2, .ref o3, .ref o4, .ref o5, .ref o6, .ref o7, .ref o8, .ref o9, .ref o10, .int 0, .int 0, .null, .int 0, .int 45, .ref t1, .ref t2, .ref t3, .ref t4, .ref t5]))]) [2] (by decide) rfl
        have hK9 := hK.sub (tys' := []) [] rfl
        exact W.iret (v := 0) hx hb hr (fun t ht hW => ⟨⟨0, (), rfl, trivial, ⟨by rw [ht]; exact hP9, va_K.moved hW.alike hK9, hD9⟩⟩, hS.F ht⟩) hS.2.2 dX12_living_36
