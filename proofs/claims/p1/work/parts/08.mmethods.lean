abbrev cX12_isNoNight : ByteArray := prog_13_method_26_code
def yX12_isNoNight : MethodName := ⟨RX12, "isNoNight", "(II)Z"⟩
theorem dX12_isNoNight_0 : decode cX12_isNoNight 0 = .ok (.aload_n 0, 1) := by decide +kernel
theorem dX12_isNoNight_1 : decode cX12_isNoNight 1 = .ok (.aload_n 0, 1) := by decide +kernel
theorem dX12_isNoNight_2 : decode cX12_isNoNight 2 = .ok (.getfield 26, 3) := by decide +kernel
theorem dX12_isNoNight_5 : decode cX12_isNoNight 5 = .ok (.iload_n 1, 1) := by decide +kernel
theorem dX12_isNoNight_6 : decode cX12_isNoNight 6 = .ok (.invokestatic 123, 3) := by decide +kernel
theorem dX12_isNoNight_9 : decode cX12_isNoNight 9 = .ok (.ifCond .ne 7, 3) := by decide +kernel
theorem dX12_isNoNight_12 : decode cX12_isNoNight 12 = .ok (.iconst 1, 1) := by decide +kernel
theorem dX12_isNoNight_13 : decode cX12_isNoNight 13 = .ok (.goto 19, 3) := by decide +kernel
theorem dX12_isNoNight_32 : decode cX12_isNoNight 32 = .ok (.invokevirtual 110, 3) := by decide +kernel
theorem q_1488 : (Cond.code yX12_isWrong cX12_isWrong 2 (some .boolean)) ∈ tw := tw_in (i := 1488) (by decide +kernel) (by decide +kernel)
theorem q_1485 : (Cond.methodLink "NightfallVillageModel" 110 yX12_isWrong) ∈ tw := tw_in (i := 1485) (by decide +kernel) (by decide +kernel)
theorem q_1487 : (Cond.instanceMethod yX12_isWrong) ∈ tw := tw_in (i := 1487) (by decide +kernel) (by decide +kernel)
theorem qp_22 : (Cond.selects yX12_isWrong.cls yX12_isWrong yX12_isWrong) ∈ tw := tw_inP (i := 22) (by decide +kernel) (by decide +kernel)
theorem dX12_isNoNight_35 : decode cX12_isNoNight 35 = .ok (.ireturn, 1) := by decide +kernel
set_option maxHeartbeats 4000000 in
set_option maxRecDepth 100000 in
theorem c_M_isNoNight (l : Launch) (hst : l.stackTraces = false) (tE : Nat) (adK adV : Nat → Nat) (dC : Nat → ClassId) (dI : Nat → Nat → Nat) (m0 : Nat) (lr : Nat) (ld : Nat) (o1 : Nat) (o2 : Nat) (o3 : Nat) (o4 : Nat) (o5 : Nat) (o6 : Nat) (o7 : Nat) (o8 : Nat) (o9 : Nat) (o10 : Nat) (t1 : Nat) (t2 : Nat) (t3 : Nat) (t4 : Nat) (t5 : Nat) (th : Int32) (p1 : Int32) (p2 : Int32) (sz : Nat) : Met l yX12_isNoNight (Cond.code yX12_isNoNight cX12_isNoNight 3 (some .boolean) :: tw) ({ frames := 2, cells := 0, slots := 0, locals := 41 }) (va_Pc [.ref m0, .int p1, .int p2] (pre tE adK adV (dC, dI) [(m0, .inr (12, [.int th, .ref lr, .ref ld, .ref o1, .int (-1), .int (-1), .int 0, .ref o2, .ref o3, .ref o4, .ref o5, .ref o6, .ref o7, .ref o8, .ref o9, .ref o10, .int 0, .int 0, .null, .int 0, .int 45, .ref t1, .ref t2, .ref t3, .ref t4, .ref t5])), (lr, .inr (14, [.int 0, .ref tE, .int 0])), (ld, .inr (14, [.int 0, .ref tE, .int 0]))] [] sz)) (va_Qi (fun (r : Int32) (_ : Unit) => r = 1) (fun (_ : Unit) (t : State) => va_P (dC, dI) cls [(m0, .inr (12, [.int 1, .ref lr, .ref ld, .ref o1, .int (-1), .int (-1), .int 0, .ref o2, .ref o3, .ref o4, .ref o5, .ref o6, .ref o7, .ref o8, .ref o9, .ref o10, .int 0, .int 0, .null, .int 0, .int 45, .ref t1, .ref t2, .ref t3, .ref t4, .ref t5]))] t.heap ∧ va_K (dC, dI) cls [] t ∧ va_D (va_A [(m0, .inr (12, [.int th, .ref lr, .ref ld, .ref o1, .int (-1), .int (-1), .int 0, .ref o2, .ref o3, .ref o4, .ref o5, .ref o6, .ref o7, .ref o8, .ref o9, .ref o10, .int 0, .int 0, .null, .int 0, .int 45, .ref t1, .ref t2, .ref t3, .ref t4, .ref t5])), (lr, .inr (14, [.int 0, .ref tE, .int 0])), (ld, .inr (14, [.int 0, .ref tE, .int 0]))] sz) [(m0, .inr (12, [.int 1, .ref lr, .ref ld, .ref o1, .int (-1), .int (-1), .int 0, .ref o2, .ref o3, .ref o4, .ref o5, .ref o6, .ref o7, .ref o8, .ref o9, .ref o10, .int 0, .int 0, .null, .int 0, .int 45, .ref t1, .ref t2, .ref t3, .ref t4, .ref t5]))]) (va_A [(m0, .inr (12, [.int th, .ref lr, .ref ld, .ref o1, .int (-1), .int (-1), .int 0, .ref o2, .ref o3, .ref o4, .ref o5, .ref o6, .ref o7, .ref o8, .ref o9, .ref o10, .int 0, .int 0, .null, .int 0, .int 45, .ref t1, .ref t2, .ref t3, .ref t4, .ref t5])), (lr, .inr (14, [.int 0, .ref tE, .int 0])), (ld, .inr (14, [.int 0, .ref tE, .int 0]))] sz)) 0 0 (va_A [(m0, .inr (12, [.int th, .ref lr, .ref ld, .ref o1, .int (-1), .int (-1), .int 0, .ref o2, .ref o3, .ref o4, .ref o5, .ref o6, .ref o7, .ref o8, .ref o9, .ref o10, .int 0, .int 0, .null, .int 0, .int 45, .ref t1, .ref t2, .ref t3, .ref t4, .ref t5])), (lr, .inr (14, [.int 0, .ref tE, .int 0])), (ld, .inr (14, [.int 0, .ref tE, .int 0]))] sz) := by
  refine Met.ofW (cc := cX12_isNoNight) (maxL := 3) (ret := (some .boolean)) (by decide) rfl ?_
  intro p e s m args below meth c s₁ B hml hv
  obtain ⟨rfl, hsz, hP, hK, hD0, ham⟩ := hv
  have hx := B.exec
  have hb := B.bytes
  have hr := B.returns
  have hts := atoms_spec B.pre
  have hq : ∀ w ∈ tw, w.before _ s = true := fun w h => hts w (List.mem_cons_of_mem _ h)
  have hown : s.vm.findClass RX12 = some m.cls := findClass_of_methodNamed B.named
  have hlocks := B.notSynchronized
  subst hsz
  have hD := hD0.self (sz := s.heap.size)
  generalize hAe : va_A [(m0, .inr (12, [.int th, .ref lr, .ref ld, .ref o1, .int (-1), .int (-1), .int 0, .ref o2, .ref o3, .ref o4, .ref o5, .ref o6, .ref o7, .ref o8, .ref o9, .ref o10, .int 0, .int 0, .null, .int 0, .int 45, .ref t1, .ref t2, .ref t3, .ref t4, .ref t5])), (lr, .inr (14, [.int 0, .ref tE, .int 0])), (ld, .inr (14, [.int 0, .ref tE, .int 0]))] s.heap.size = A at hD ham ⊢
  have hA : ∀ q : Nat, s.heap.size ≤ q → A q := fun q h => by rw [← hAe]; exact Or.inr h
  have hS : va_S A s.heap s.heap [] := va_S.rf
  have hP : va_P (dC, dI) cls [(m0, .inr (12, [.int th, .ref lr, .ref ld, .ref o1, .int (-1), .int (-1), .int 0, .ref o2, .ref o3, .ref o4, .ref o5, .ref o6, .ref o7, .ref o8, .ref o9, .ref o10, .int 0, .int 0, .null, .int 0, .int 45, .ref t1, .ref t2, .ref t3, .ref t4, .ref t5])), (lr, .inr (14, [.int 0, .ref tE, .int 0])), (ld, .inr (14, [.int 0, .ref tE, .int 0]))] s.heap := hP
  have hl := lv_entry ([.ref m0, .int p1, .int p2]) (n := 3) (Nat.le_of_ble_eq_true rfl)
  rw [lg_entry_eq]
  generalize (lg_sl ([.ref m0, .int p1, .int p2]) ++ List.replicate (3 - (lg_sl ([.ref m0, .int p1, .int p2])).length) Slot.unset).toArray = ls at hl ⊢
  have hl : lv_has ls 3 [(0, .ref m0), (1, .int p1), (2, .int p2)] := hl
  refine lv_aload_n hx hb dX12_isNoNight_0 rfl (lv_at hl 0 rfl) ?_
  refine lv_aload_n hx hb dX12_isNoNight_1 rfl (lv_at hl 0 rfl) ?_
  refine va_get (D := (dC, dI)) (ci := 12) (v := .ref ld) (C := RX12) (T := TX12) (N := 26) hx hb hq i_X12 hown hK hP 0 rfl rfl 2 (by decide) (hq _ q_1306) (fun _ h9 => h9) rfl dX12_isNoNight_2 ?_
  refine lv_iload_n hx hb dX12_isNoNight_5 rfl (lv_at hl 1 rfl) ?_
  have hPc := hP.sub (ws' := [(ld, .inr (14, [.int 0, .ref tE, .int 0]))]) [2] rfl
  have hKc := hK.sub (tys' := []) [] rfl
  refine va_calli (va_runS (As := [.ref ld, .int p1]) (rest := [.ref m0]) ⟨hx, hb, hml, hown, hq⟩ (c_isOf l hst tE adK adV dC dI ld p1 s.heap.size) (tcS 2 hq q_1599 q_12 q_1597 q_1598 rfl rfl (by decide +kernel) ⟨Nat.le_of_ble_eq_true rfl, Nat.le_of_ble_eq_true rfl⟩) (preR.S (preR.of hPc hKc ham hS hA)) rfl rfl hl.1 rfl (lv_room (Nat.le_of_ble_eq_true rfl)) dX12_isNoNight_6 ⟨Nat.le_of_ble_eq_true rfl, Nat.le_of_ble_eq_true rfl⟩) hS (fun q _ h => hA q (Nat.le_trans hS.1 h)) (fun q h => hA q (Nat.le_trans hS.1 h)) (fun r_1 u t H1 locs ht hvm hw hB hz1 hk1 hS => ?_)
  have hP : va_P (dC, dI) cls [(m0, .inr (12, [.int th, .ref lr, .ref ld, .ref o1, .int (-1), .int (-1), .int 0, .ref o2, .ref o3, .ref o4, .ref o5, .ref o6, .ref o7, .ref o8, .ref o9, .ref o10, .int 0, .int 0, .null, .int 0, .int 45, .ref t1, .ref t2, .ref t3, .ref t4, .ref t5])), (lr, .inr (14, [.int 0, .ref tE, .int 0])), (ld, .inr (14, [.int 0, .ref tE, .int 0]))] H1 := ro_keep hP hk1
  generalize H1 = H at hP hS ⊢
  refine W.widen (k := 0) (n := 0) (Nat.le_of_ble_eq_true rfl) (Nat.le_of_ble_eq_true rfl) ?_
  have hw : r_1 = 0 := hw
  subst hw
  refine lv_if_ne (tgt := 16) hx hb dX12_isNoNight_9 (by decide) (fun c_2 => ?_) (fun c_2 => ?_)
  · exact absurd c_2 (by decide)
  · refine lv_iconst (v := 1) hx hb dX12_isNoNight_12 (by decide) ?_
    refine lv_goto (tgt := 32) hx hb dX12_isNoNight_13 (by decide) ?_
    have hPc := hP.sub (ws' := [(m0, .inr (12, [.int th, .ref lr, .ref ld, .ref o1, .int (-1), .int (-1), .int 0, .ref o2, .ref o3, .ref o4, .ref o5, .ref o6, .ref o7, .ref o8, .ref o9, .ref o10, .int 0, .int 0, .null, .int 0, .int 45, .ref t1, .ref t2, .ref t3, .ref t4, .ref t5]))]) [0] rfl
    have hKc := hK.sub (tys' := []) [] rfl
    have hDc := hD.sub (ws' := [(m0, .inr (12, [.int th, .ref lr, .ref ld, .ref o1, .int (-1), .int (-1), .int 0, .ref o2, .ref o3, .ref o4, .ref o5, .ref o6, .ref o7, .ref o8, .ref o9, .ref o10, .int 0, .int 0, .null, .int 0, .int 45, .ref t1, .ref t2, .ref t3, .ref t4, .ref t5]))]) [0] (by decide) rfl
    have hFc := va_free (wc := [(m0, .inr (12, [.int th, .ref lr, .ref ld, .ref o1, .int (-1), .int (-1), .int 0, .ref o2, .ref o3, .ref o4, .ref o5, .ref o6, .ref o7, .ref o8, .ref o9, .ref o10, .int 0, .int 0, .null, .int 0, .int 45, .ref t1, .ref t2, .ref t3, .ref t4, .ref t5]))]) hD hS hA [0] rfl
    refine va_calli (va_runV (As := [.int 1]) (rest := []) ⟨hx, hb, hml, hown, hq⟩ (c_isWrong1 l hst tE adK adV dC dI m0 lr ld o1 o2 o3 o4 o5 o6 o7 o8 o9 o10 t1 t2 t3 t4 t5 th H.size) (tcV 1 hq q_1488 q_12 q_1485 q_1487 qp_22 rfl rfl (by decide +kernel) ⟨Nat.le_of_ble_eq_true rfl, Nat.le_of_ble_eq_true rfl⟩) (pre.V (va_recv hK hP (ci := 12) (q0 := 0) rfl rfl) (pre.of hPc hDc hKc ham hS hFc)) rfl rfl hl.1 rfl (lv_room (Nat.le_of_ble_eq_true rfl)) dX12_isNoNight_32 ⟨Nat.le_of_ble_eq_true rfl, Nat.le_of_ble_eq_true rfl⟩) hS (fun q _ h => hFc q h) hFc (fun r_3 u t H1 locs ht hvm hw hB hz1 hk1 hS => ?_)
    obtain ⟨hP1, hK1, hD1⟩ := hB
    rw [ht] at hP1
    have hK1 := va_K.moved hvm.symm hK1
    obtain ⟨hP, hD⟩ := va_join (wr := [(lr, .inr (14, [.int 0, .ref tE, .int 0])), (ld, .inr (14, [.int 0, .ref tE, .int 0]))]) (w1 := [(m0, .inr (12, [.int 1, .ref lr, .ref ld, .ref o1, .int (-1), .int (-1), .int 0, .ref o2, .ref o3, .ref o4, .ref o5, .ref o6, .ref o7, .ref o8, .ref o9, .ref o10, .int 0, .int 0, .null, .int 0, .int 45, .ref t1, .ref t2, .ref t3, .ref t4, .ref t5]))]) (wc := [(m0, .inr (12, [.int th, .ref lr, .ref ld, .ref o1, .int (-1), .int (-1), .int 0, .ref o2, .ref o3, .ref o4, .ref o5, .ref o6, .ref o7, .ref o8, .ref o9, .ref o10, .int 0, .int 0, .null, .int 0, .int 45, .ref t1, .ref t2, .ref t3, .ref t4, .ref t5]))]) hP hD [0] [1, 2] rfl rfl (by decide) (by decide) hk1 hFc hP1 hD1
    have hK := (hK.sub (tys' := []) [] rfl).app hK1
    generalize H1 = H at hP hS ⊢
    have hP : va_P (dC, dI) cls [(lr, .inr (14, [.int 0, .ref tE, .int 0])), (ld, .inr (14, [.int 0, .ref tE, .int 0])), (m0, .inr (12, [.int 1, .ref lr, .ref ld, .ref o1, .int (-1), .int (-1), .int 0, .ref o2, .ref o3, .ref o4, .ref o5, .ref o6, .ref o7, .ref o8, .ref o9, .ref o10, .int 0, .int 0, .null, .int 0, .int 45, .ref t1, .ref t2, .ref t3, .ref t4, .ref t5]))] H := hP
    have hD : va_D A [(lr, .inr (14, [.int 0, .ref tE, .int 0])), (ld, .inr (14, [.int 0, .ref tE, .int 0])), (m0, .inr (12, [.int 1, .ref lr, .ref ld, .ref o1, .int (-1), .int (-1), .int 0, .ref o2, .ref o3, .ref o4, .ref o5, .ref o6, .ref o7, .ref o8, .ref o9, .ref o10, .int 0, .int 0, .null, .int 0, .int 45, .ref t1, .ref t2, .ref t3, .ref t4, .ref t5]))] := hD
    have hK : va_K (dC, dI) cls [] s := hK
    refine W.widen (k := 0) (n := 0) (Nat.le_of_ble_eq_true rfl) (Nat.le_of_ble_eq_true rfl) ?_
    have hw : r_3 = 1 := hw
    subst hw
    refine W.widen (k := 0) (n := 0) (Nat.le_of_ble_eq_true rfl) (Nat.le_of_ble_eq_true rfl) ?_
    have hP9 := hP.sub (ws' := [(m0, .inr (12, [.int 1, .ref lr, .ref ld, .ref o1, .int (-1), .int (-1), .int 0, .ref o2, .ref o3, .ref o4, .ref o5, .ref o6, .ref o7, .ref o8, .ref o9, .ref o10, .int 0, .int 0, .null, .int 0, .int 45, .ref t1, .ref t2, .ref t3, .ref t4, .ref t5]))]) [2] rfl
    have hD9 := hD.sub (ws' := [(m0, .inr (12, [.int 1, .ref lr, .ref ld, .ref o1, .int (-1), .int (-1), .int 0, .ref o2, .ref o3, .ref o4, .ref o5, .ref o6, .ref o7, .ref o8, .ref o9, .ref o10, .int 0, .int 0, .null, .int 0, .int 45, .ref t1, .ref t2, .ref t3, .ref t4, .ref t5]))]) [2] (by decide) rfl
    have hK9 := hK.sub (tys' := []) [] rfl
    exact W.zret (v := 1) hx hb hr (by decide) (fun t ht hW => ⟨⟨1, (), rfl, rfl, ⟨by rw [ht]; exact hP9, va_K.moved hW.alike hK9, hD9⟩⟩, hS.F ht⟩) hS.2.2 dX12_isNoNight_35
abbrev cX12_isNobody : ByteArray := prog_13_method_35_code
def yX12_isNobody : MethodName := ⟨RX12, "isNobody", "(I)Z"⟩
theorem dX12_isNobody_0 : decode cX12_isNobody 0 = .ok (.aload_n 0, 1) := by decide +kernel
theorem dX12_isNobody_1 : decode cX12_isNobody 1 = .ok (.aload_n 0, 1) := by decide +kernel
theorem dX12_isNobody_2 : decode cX12_isNobody 2 = .ok (.getfield 26, 3) := by decide +kernel
theorem dX12_isNobody_5 : decode cX12_isNobody 5 = .ok (.iload_n 1, 1) := by decide +kernel
theorem dX12_isNobody_6 : decode cX12_isNobody 6 = .ok (.invokestatic 123, 3) := by decide +kernel
theorem dX12_isNobody_9 : decode cX12_isNobody 9 = .ok (.ifCond .eq 7, 3) := by decide +kernel
theorem dX12_isNobody_16 : decode cX12_isNobody 16 = .ok (.iconst 1, 1) := by decide +kernel
theorem dX12_isNobody_17 : decode cX12_isNobody 17 = .ok (.invokevirtual 110, 3) := by decide +kernel
theorem dX12_isNobody_20 : decode cX12_isNobody 20 = .ok (.ireturn, 1) := by decide +kernel
set_option maxHeartbeats 4000000 in
set_option maxRecDepth 100000 in
theorem c_M_isNobody (l : Launch) (hst : l.stackTraces = false) (tE : Nat) (adK adV : Nat → Nat) (dC : Nat → ClassId) (dI : Nat → Nat → Nat) (m0 : Nat) (lr : Nat) (ld : Nat) (o1 : Nat) (o2 : Nat) (o3 : Nat) (o4 : Nat) (o5 : Nat) (o6 : Nat) (o7 : Nat) (o8 : Nat) (o9 : Nat) (o10 : Nat) (t1 : Nat) (t2 : Nat) (t3 : Nat) (t4 : Nat) (t5 : Nat) (th : Int32) (p1 : Int32) (sz : Nat) : Met l yX12_isNobody (Cond.code yX12_isNobody cX12_isNobody 2 (some .boolean) :: tw) ({ frames := 2, cells := 0, slots := 0, locals := 41 }) (va_Pc [.ref m0, .int p1] (pre tE adK adV (dC, dI) [(m0, .inr (12, [.int th, .ref lr, .ref ld, .ref o1, .int (-1), .int (-1), .int 0, .ref o2, .ref o3, .ref o4, .ref o5, .ref o6, .ref o7, .ref o8, .ref o9, .ref o10, .int 0, .int 0, .null, .int 0, .int 45, .ref t1, .ref t2, .ref t3, .ref t4, .ref t5])), (lr, .inr (14, [.int 0, .ref tE, .int 0])), (ld, .inr (14, [.int 0, .ref tE, .int 0]))] [] sz)) (va_Qi (fun (r : Int32) (_ : Unit) => r = 1) (fun (_ : Unit) (t : State) => va_P (dC, dI) cls [(m0, .inr (12, [.int 1, .ref lr, .ref ld, .ref o1, .int (-1), .int (-1), .int 0, .ref o2, .ref o3, .ref o4, .ref o5, .ref o6, .ref o7, .ref o8, .ref o9, .ref o10, .int 0, .int 0, .null, .int 0, .int 45, .ref t1, .ref t2, .ref t3, .ref t4, .ref t5]))] t.heap ∧ va_K (dC, dI) cls [] t ∧ va_D (va_A [(m0, .inr (12, [.int th, .ref lr, .ref ld, .ref o1, .int (-1), .int (-1), .int 0, .ref o2, .ref o3, .ref o4, .ref o5, .ref o6, .ref o7, .ref o8, .ref o9, .ref o10, .int 0, .int 0, .null, .int 0, .int 45, .ref t1, .ref t2, .ref t3, .ref t4, .ref t5])), (lr, .inr (14, [.int 0, .ref tE, .int 0])), (ld, .inr (14, [.int 0, .ref tE, .int 0]))] sz) [(m0, .inr (12, [.int 1, .ref lr, .ref ld, .ref o1, .int (-1), .int (-1), .int 0, .ref o2, .ref o3, .ref o4, .ref o5, .ref o6, .ref o7, .ref o8, .ref o9, .ref o10, .int 0, .int 0, .null, .int 0, .int 45, .ref t1, .ref t2, .ref t3, .ref t4, .ref t5]))]) (va_A [(m0, .inr (12, [.int th, .ref lr, .ref ld, .ref o1, .int (-1), .int (-1), .int 0, .ref o2, .ref o3, .ref o4, .ref o5, .ref o6, .ref o7, .ref o8, .ref o9, .ref o10, .int 0, .int 0, .null, .int 0, .int 45, .ref t1, .ref t2, .ref t3, .ref t4, .ref t5])), (lr, .inr (14, [.int 0, .ref tE, .int 0])), (ld, .inr (14, [.int 0, .ref tE, .int 0]))] sz)) 0 0 (va_A [(m0, .inr (12, [.int th, .ref lr, .ref ld, .ref o1, .int (-1), .int (-1), .int 0, .ref o2, .ref o3, .ref o4, .ref o5, .ref o6, .ref o7, .ref o8, .ref o9, .ref o10, .int 0, .int 0, .null, .int 0, .int 45, .ref t1, .ref t2, .ref t3, .ref t4, .ref t5])), (lr, .inr (14, [.int 0, .ref tE, .int 0])), (ld, .inr (14, [.int 0, .ref tE, .int 0]))] sz) := by
  refine Met.ofW (cc := cX12_isNobody) (maxL := 2) (ret := (some .boolean)) (by decide) rfl ?_
  intro p e s m args below meth c s₁ B hml hv
  obtain ⟨rfl, hsz, hP, hK, hD0, ham⟩ := hv
  have hx := B.exec
  have hb := B.bytes
  have hr := B.returns
  have hts := atoms_spec B.pre
  have hq : ∀ w ∈ tw, w.before _ s = true := fun w h => hts w (List.mem_cons_of_mem _ h)
  have hown : s.vm.findClass RX12 = some m.cls := findClass_of_methodNamed B.named
  have hlocks := B.notSynchronized
  subst hsz
  have hD := hD0.self (sz := s.heap.size)
  generalize hAe : va_A [(m0, .inr (12, [.int th, .ref lr, .ref ld, .ref o1, .int (-1), .int (-1), .int 0, .ref o2, .ref o3, .ref o4, .ref o5, .ref o6, .ref o7, .ref o8, .ref o9, .ref o10, .int 0, .int 0, .null, .int 0, .int 45, .ref t1, .ref t2, .ref t3, .ref t4, .ref t5])), (lr, .inr (14, [.int 0, .ref tE, .int 0])), (ld, .inr (14, [.int 0, .ref tE, .int 0]))] s.heap.size = A at hD ham ⊢
  have hA : ∀ q : Nat, s.heap.size ≤ q → A q := fun q h => by rw [← hAe]; exact Or.inr h
  have hS : va_S A s.heap s.heap [] := va_S.rf
  have hP : va_P (dC, dI) cls [(m0, .inr (12, [.int th, .ref lr, .ref ld, .ref o1, .int (-1), .int (-1), .int 0, .ref o2, .ref o3, .ref o4, .ref o5, .ref o6, .ref o7, .ref o8, .ref o9, .ref o10, .int 0, .int 0, .null, .int 0, .int 45, .ref t1, .ref t2, .ref t3, .ref t4, .ref t5])), (lr, .inr (14, [.int 0, .ref tE, .int 0])), (ld, .inr (14, [.int 0, .ref tE, .int 0]))] s.heap := hP
  have hl := lv_entry ([.ref m0, .int p1]) (n := 2) (Nat.le_of_ble_eq_true rfl)
  rw [lg_entry_eq]
  generalize (lg_sl ([.ref m0, .int p1]) ++ List.replicate (2 - (lg_sl ([.ref m0, .int p1])).length) Slot.unset).toArray = ls at hl ⊢
  have hl : lv_has ls 2 [(0, .ref m0), (1, .int p1)] := hl
  refine lv_aload_n hx hb dX12_isNobody_0 rfl (lv_at hl 0 rfl) ?_
  refine lv_aload_n hx hb dX12_isNobody_1 rfl (lv_at hl 0 rfl) ?_
  refine va_get (D := (dC, dI)) (ci := 12) (v := .ref ld) (C := RX12) (T := TX12) (N := 26) hx hb hq i_X12 hown hK hP 0 rfl rfl 2 (by decide) (hq _ q_1306) (fun _ h9 => h9) rfl dX12_isNobody_2 ?_
  refine lv_iload_n hx hb dX12_isNobody_5 rfl (lv_at hl 1 rfl) ?_
  have hPc := hP.sub (ws' := [(ld, .inr (14, [.int 0, .ref tE, .int 0]))]) [2] rfl
  have hKc := hK.sub (tys' := []) [] rfl
  refine va_calli (va_runS (As := [.ref ld, .int p1]) (rest := [.ref m0]) ⟨hx, hb, hml, hown, hq⟩ (c_isOf l hst tE adK adV dC dI ld p1 s.heap.size) (tcS 2 hq q_1599 q_12 q_1597 q_1598 rfl rfl (by decide +kernel) ⟨Nat.le_of_ble_eq_true rfl, Nat.le_of_ble_eq_true rfl⟩) (preR.S (preR.of hPc hKc ham hS hA)) rfl rfl hl.1 rfl (lv_room (Nat.le_of_ble_eq_true rfl)) dX12_isNobody_6 ⟨Nat.le_of_ble_eq_true rfl, Nat.le_of_ble_eq_true rfl⟩) hS (fun q _ h => hA q (Nat.le_trans hS.1 h)) (fun q h => hA q (Nat.le_trans hS.1 h)) (fun r_1 u t H1 locs ht hvm hw hB hz1 hk1 hS => ?_)
  have hP : va_P (dC, dI) cls [(m0, .inr (12, [.int th, .ref lr, .ref ld, .ref o1, .int (-1), .int (-1), .int 0, .ref o2, .ref o3, .ref o4, .ref o5, .ref o6, .ref o7, .ref o8, .ref o9, .ref o10, .int 0, .int 0, .null, .int 0, .int 45, .ref t1, .ref t2, .ref t3, .ref t4, .ref t5])), (lr, .inr (14, [.int 0, .ref tE, .int 0])), (ld, .inr (14, [.int 0, .ref tE, .int 0]))] H1 := ro_keep hP hk1
  generalize H1 = H at hP hS ⊢
  refine W.widen (k := 0) (n := 0) (Nat.le_of_ble_eq_true rfl) (Nat.le_of_ble_eq_true rfl) ?_
  have hw : r_1 = 0 := hw
  subst hw
  refine lv_if_eq (tgt := 16) hx hb dX12_isNobody_9 (by decide) (fun c_2 => ?_) (fun c_2 => ?_)
  · refine lv_iconst (v := 1) hx hb dX12_isNobody_16 (by decide) ?_
    have hPc := hP.sub (ws' := [(m0, .inr (12, [.int th, .ref lr, .ref ld, .ref o1, .int (-1), .int (-1), .int 0, .ref o2, .ref o3, .ref o4, .ref o5, .ref o6, .ref o7, .ref o8, .ref o9, .ref o10, .int 0, .int 0, .null, .int 0, .int 45, .ref t1, .ref t2, .ref t3, .ref t4, .ref t5]))]) [0] rfl
    have hKc := hK.sub (tys' := []) [] rfl
    have hDc := hD.sub (ws' := [(m0, .inr (12, [.int th, .ref lr, .ref ld, .ref o1, .int (-1), .int (-1), .int 0, .ref o2, .ref o3, .ref o4, .ref o5, .ref o6, .ref o7, .ref o8, .ref o9, .ref o10, .int 0, .int 0, .null, .int 0, .int 45, .ref t1, .ref t2, .ref t3, .ref t4, .ref t5]))]) [0] (by decide) rfl
    have hFc := va_free (wc := [(m0, .inr (12, [.int th, .ref lr, .ref ld, .ref o1, .int (-1), .int (-1), .int 0, .ref o2, .ref o3, .ref o4, .ref o5, .ref o6, .ref o7, .ref o8, .ref o9, .ref o10, .int 0, .int 0, .null, .int 0, .int 45, .ref t1, .ref t2, .ref t3, .ref t4, .ref t5]))]) hD hS hA [0] rfl
    refine va_calli (va_runV (As := [.int 1]) (rest := []) ⟨hx, hb, hml, hown, hq⟩ (c_isWrong1 l hst tE adK adV dC dI m0 lr ld o1 o2 o3 o4 o5 o6 o7 o8 o9 o10 t1 t2 t3 t4 t5 th H.size) (tcV 1 hq q_1488 q_12 q_1485 q_1487 qp_22 rfl rfl (by decide +kernel) ⟨Nat.le_of_ble_eq_true rfl, Nat.le_of_ble_eq_true rfl⟩) (pre.V (va_recv hK hP (ci := 12) (q0 := 0) rfl rfl) (pre.of hPc hDc hKc ham hS hFc)) rfl rfl hl.1 rfl (lv_room (Nat.le_of_ble_eq_true rfl)) dX12_isNobody_17 ⟨Nat.le_of_ble_eq_true rfl, Nat.le_of_ble_eq_true rfl⟩) hS (fun q _ h => hFc q h) hFc (fun r_3 u t H1 locs ht hvm hw hB hz1 hk1 hS => ?_)
    obtain ⟨hP1, hK1, hD1⟩ := hB
    rw [ht] at hP1
    have hK1 := va_K.moved hvm.symm hK1
    obtain ⟨hP, hD⟩ := va_join (wr := [(lr, .inr (14, [.int 0, .ref tE, .int 0])), (ld, .inr (14, [.int 0, .ref tE, .int 0]))]) (w1 := [(m0, .inr (12, [.int 1, .ref lr, .ref ld, .ref o1, .int (-1), .int (-1), .int 0, .ref o2, .ref o3, .ref o4, .ref o5, .ref o6, .ref o7, .ref o8, .ref o9, .ref o10, .int 0, .int 0, .null, .int 0, .int 45, .ref t1, .ref t2, .ref t3, .ref t4, .ref t5]))]) (wc := [(m0, .inr (12, [.int th, .ref lr, .ref ld, .ref o1, .int (-1), .int (-1), .int 0, .ref o2, .ref o3, .ref o4, .ref o5, .ref o6, .ref o7, .ref o8, .ref o9, .ref o10, .int 0, .int 0, .null, .int 0, .int 45, .ref t1, .ref t2, .ref t3, .ref t4, .ref t5]))]) hP hD [0] [1, 2] rfl rfl (by decide) (by decide) hk1 hFc hP1 hD1
    have hK := (hK.sub (tys' := []) [] rfl).app hK1
    generalize H1 = H at hP hS ⊢
    have hP : va_P (dC, dI) cls [(lr, .inr (14, [.int 0, .ref tE, .int 0])), (ld, .inr (14, [.int 0, .ref tE, .int 0])), (m0, .inr (12, [.int 1, .ref lr, .ref ld, .ref o1, .int (-1), .int (-1), .int 0, .ref o2, .ref o3, .ref o4, .ref o5, .ref o6, .ref o7, .ref o8, .ref o9, .ref o10, .int 0, .int 0, .null, .int 0, .int 45, .ref t1, .ref t2, .ref t3, .ref t4, .ref t5]))] H := hP
    have hD : va_D A [(lr, .inr (14, [.int 0, .ref tE, .int 0])), (ld, .inr (14, [.int 0, .ref tE, .int 0])), (m0, .inr (12, [.int 1, .ref lr, .ref ld, .ref o1, .int (-1), .int (-1), .int 0, .ref o2, .ref o3, .ref o4, .ref o5, .ref o6, .ref o7, .ref o8, .ref o9, .ref o10, .int 0, .int 0, .null, .int 0, .int 45, .ref t1, .ref t2, .ref t3, .ref t4, .ref t5]))] := hD
    have hK : va_K (dC, dI) cls [] s := hK
    refine W.widen (k := 0) (n := 0) (Nat.le_of_ble_eq_true rfl) (Nat.le_of_ble_eq_true rfl) ?_
    have hw : r_3 = 1 := hw
    subst hw
    refine W.widen (k := 0) (n := 0) (Nat.le_of_ble_eq_true rfl) (Nat.le_of_ble_eq_true rfl) ?_
    have hP9 := hP.sub (ws' := [(m0, .inr (12, [.int 1, .ref lr, .ref ld, .ref o1, .int (-1), .int (-1), .int 0, .ref o2, .ref o3, .ref o4, .ref o5, .ref o6, .ref o7, .ref o8, .ref o9, .ref o10, .int 0, .int 0, .null, .int 0, .int 45, .ref t1, .ref t2, .ref t3, .ref t4, .ref t5]))]) [2] rfl
    have hD9 := hD.sub (ws' := [(m0, .inr (12, [.int 1, .ref lr, .ref ld, .ref o1, .int (-1), .int (-1), .int 0, .ref o2, .ref o3, .ref o4, .ref o5, .ref o6, .ref o7, .ref o8, .ref o9, .ref o10, .int 0, .int 0, .null, .int 0, .int 45, .ref t1, .ref t2, .ref t3, .ref t4, .ref t5]))]) [2] (by decide) rfl
    have hK9 := hK.sub (tys' := []) [] rfl
    exact W.zret (v := 1) hx hb hr (by decide) (fun t ht hW => ⟨⟨1, (), rfl, rfl, ⟨by rw [ht]; exact hP9, va_K.moved hW.alike hK9, hD9⟩⟩, hS.F ht⟩) hS.2.2 dX12_isNobody_20
  · exact absurd c_2 (by decide)
abbrev cX12_isNoChange : ByteArray := prog_13_method_59_code
def yX12_isNoChange : MethodName := ⟨RX12, "isNoChange", "(II)Z"⟩
theorem dX12_isNoChange_0 : decode cX12_isNoChange 0 = .ok (.aload_n 0, 1) := by decide +kernel
theorem dX12_isNoChange_1 : decode cX12_isNoChange 1 = .ok (.aload_n 0, 1) := by decide +kernel
theorem dX12_isNoChange_2 : decode cX12_isNoChange 2 = .ok (.iload_n 1, 1) := by decide +kernel
theorem dX12_isNoChange_3 : decode cX12_isNoChange 3 = .ok (.iload_n 2, 1) := by decide +kernel
theorem dX12_isNoChange_4 : decode cX12_isNoChange 4 = .ok (.invokevirtual 140, 3) := by decide +kernel
theorem q_1650 : (Cond.code yX12_areSeats cX12_areSeats 3 (some .boolean)) ∈ tw := tw_in (i := 1650) (by decide +kernel) (by decide +kernel)
theorem q_1647 : (Cond.methodLink "NightfallVillageModel" 140 yX12_areSeats) ∈ tw := tw_in (i := 1647) (by decide +kernel) (by decide +kernel)
theorem q_1649 : (Cond.instanceMethod yX12_areSeats) ∈ tw := tw_in (i := 1649) (by decide +kernel) (by decide +kernel)
theorem qp_26 : (Cond.selects yX12_areSeats.cls yX12_areSeats yX12_areSeats) ∈ tw := tw_inP (i := 26) (by decide +kernel) (by decide +kernel)
theorem dX12_isNoChange_7 : decode cX12_isNoChange 7 = .ok (.ifCond .ne 7, 3) := by decide +kernel
theorem dX12_isNoChange_10 : decode cX12_isNoChange 10 = .ok (.iconst 1, 1) := by decide +kernel
theorem dX12_isNoChange_11 : decode cX12_isNoChange 11 = .ok (.goto 24, 3) := by decide +kernel
theorem dX12_isNoChange_35 : decode cX12_isNoChange 35 = .ok (.invokevirtual 110, 3) := by decide +kernel
theorem dX12_isNoChange_38 : decode cX12_isNoChange 38 = .ok (.ireturn, 1) := by decide +kernel
set_option maxHeartbeats 4000000 in
set_option maxRecDepth 100000 in
theorem c_M_isNoChange (l : Launch) (hst : l.stackTraces = false) (tE : Nat) (adK adV : Nat → Nat) (dC : Nat → ClassId) (dI : Nat → Nat → Nat) (m0 : Nat) (lr : Nat) (ld : Nat) (o1 : Nat) (o2 : Nat) (o3 : Nat) (o4 : Nat) (o5 : Nat) (o6 : Nat) (o7 : Nat) (o8 : Nat) (o9 : Nat) (o10 : Nat) (t1 : Nat) (t2 : Nat) (t3 : Nat) (t4 : Nat) (t5 : Nat) (th : Int32) (p1 : Int32) (p2 : Int32) (sz : Nat) : Met l yX12_isNoChange (Cond.code yX12_isNoChange cX12_isNoChange 3 (some .boolean) :: tw) ({ frames := 3, cells := 0, slots := 0, locals := 63 }) (va_Pc [.ref m0, .int p1, .int p2] (pre tE adK adV (dC, dI) [(m0, .inr (12, [.int th, .ref lr, .ref ld, .ref o1, .int (-1), .int (-1), .int 0, .ref o2, .ref o3, .ref o4, .ref o5, .ref o6, .ref o7, .ref o8, .ref o9, .ref o10, .int 0, .int 0, .null, .int 0, .int 45, .ref t1, .ref t2, .ref t3, .ref t4, .ref t5])), (lr, .inr (14, [.int 0, .ref tE, .int 0])), (ld, .inr (14, [.int 0, .ref tE, .int 0]))] [] sz)) (va_Qi (fun (r : Int32) (_ : Unit) => r = 1) (fun (_ : Unit) (t : State) => va_P (dC, dI) cls [(m0, .inr (12, [.int 1, .ref lr, .ref ld, .ref o1, .int (-1), .int (-1), .int 0, .ref o2, .ref o3, .ref o4, .ref o5, .ref o6, .ref o7, .ref o8, .ref o9, .ref o10, .int 0, .int 0, .null, .int 0, .int 45, .ref t1, .ref t2, .ref t3, .ref t4, .ref t5]))] t.heap ∧ va_K (dC, dI) cls [] t ∧ va_D (va_A [(m0, .inr (12, [.int th, .ref lr, .ref ld, .ref o1, .int (-1), .int (-1), .int 0, .ref o2, .ref o3, .ref o4, .ref o5, .ref o6, .ref o7, .ref o8, .ref o9, .ref o10, .int 0, .int 0, .null, .int 0, .int 45, .ref t1, .ref t2, .ref t3, .ref t4, .ref t5])), (lr, .inr (14, [.int 0, .ref tE, .int 0])), (ld, .inr (14, [.int 0, .ref tE, .int 0]))] sz) [(m0, .inr (12, [.int 1, .ref lr, .ref ld, .ref o1, .int (-1), .int (-1), .int 0, .ref o2, .ref o3, .ref o4, .ref o5, .ref o6, .ref o7, .ref o8, .ref o9, .ref o10, .int 0, .int 0, .null, .int 0, .int 45, .ref t1, .ref t2, .ref t3, .ref t4, .ref t5]))]) (va_A [(m0, .inr (12, [.int th, .ref lr, .ref ld, .ref o1, .int (-1), .int (-1), .int 0, .ref o2, .ref o3, .ref o4, .ref o5, .ref o6, .ref o7, .ref o8, .ref o9, .ref o10, .int 0, .int 0, .null, .int 0, .int 45, .ref t1, .ref t2, .ref t3, .ref t4, .ref t5])), (lr, .inr (14, [.int 0, .ref tE, .int 0])), (ld, .inr (14, [.int 0, .ref tE, .int 0]))] sz)) 0 0 (va_A [(m0, .inr (12, [.int th, .ref lr, .ref ld, .ref o1, .int (-1), .int (-1), .int 0, .ref o2, .ref o3, .ref o4, .ref o5, .ref o6, .ref o7, .ref o8, .ref o9, .ref o10, .int 0, .int 0, .null, .int 0, .int 45, .ref t1, .ref t2, .ref t3, .ref t4, .ref t5])), (lr, .inr (14, [.int 0, .ref tE, .int 0])), (ld, .inr (14, [.int 0, .ref tE, .int 0]))] sz) := by
  refine Met.ofW (cc := cX12_isNoChange) (maxL := 3) (ret := (some .boolean)) (by decide) rfl ?_
  intro p e s m args below meth c s₁ B hml hv
  obtain ⟨rfl, hsz, hP, hK, hD0, ham⟩ := hv
  have hx := B.exec
  have hb := B.bytes
  have hr := B.returns
  have hts := atoms_spec B.pre
  have hq : ∀ w ∈ tw, w.before _ s = true := fun w h => hts w (List.mem_cons_of_mem _ h)
  have hown : s.vm.findClass RX12 = some m.cls := findClass_of_methodNamed B.named
  have hlocks := B.notSynchronized
  subst hsz
  have hD := hD0.self (sz := s.heap.size)
  generalize hAe : va_A [(m0, .inr (12, [.int th, .ref lr, .ref ld, .ref o1, .int (-1), .int (-1), .int 0, .ref o2, .ref o3, .ref o4, .ref o5, .ref o6, .ref o7, .ref o8, .ref o9, .ref o10, .int 0, .int 0, .null, .int 0, .int 45, .ref t1, .ref t2, .ref t3, .ref t4, .ref t5])), (lr, .inr (14, [.int 0, .ref tE, .int 0])), (ld, .inr (14, [.int 0, .ref tE, .int 0]))] s.heap.size = A at hD ham ⊢
  have hA : ∀ q : Nat, s.heap.size ≤ q → A q := fun q h => by rw [← hAe]; exact Or.inr h
  have hS : va_S A s.heap s.heap [] := va_S.rf
  have hP : va_P (dC, dI) cls [(m0, .inr (12, [.int th, .ref lr, .ref ld, .ref o1, .int (-1), .int (-1), .int 0, .ref o2, .ref o3, .ref o4, .ref o5, .ref o6, .ref o7, .ref o8, .ref o9, .ref o10, .int 0, .int 0, .null, .int 0, .int 45, .ref t1, .ref t2, .ref t3, .ref t4, .ref t5])), (lr, .inr (14, [.int 0, .ref tE, .int 0])), (ld, .inr (14, [.int 0, .ref tE, .int 0]))] s.heap := hP
  have hl := lv_entry ([.ref m0, .int p1, .int p2]) (n := 3) (Nat.le_of_ble_eq_true rfl)
  rw [lg_entry_eq]
  generalize (lg_sl ([.ref m0, .int p1, .int p2]) ++ List.replicate (3 - (lg_sl ([.ref m0, .int p1, .int p2])).length) Slot.unset).toArray = ls at hl ⊢
  have hl : lv_has ls 3 [(0, .ref m0), (1, .int p1), (2, .int p2)] := hl
  refine lv_aload_n hx hb dX12_isNoChange_0 rfl (lv_at hl 0 rfl) ?_
  refine lv_aload_n hx hb dX12_isNoChange_1 rfl (lv_at hl 0 rfl) ?_
  refine lv_iload_n hx hb dX12_isNoChange_2 rfl (lv_at hl 1 rfl) ?_
  refine lv_iload_n hx hb dX12_isNoChange_3 rfl (lv_at hl 2 rfl) ?_
  have hPc := hP.sub (ws' := [(m0, .inr (12, [.int th, .ref lr, .ref ld, .ref o1, .int (-1), .int (-1), .int 0, .ref o2, .ref o3, .ref o4, .ref o5, .ref o6, .ref o7, .ref o8, .ref o9, .ref o10, .int 0, .int 0, .null, .int 0, .int 45, .ref t1, .ref t2, .ref t3, .ref t4, .ref t5])), (ld, .inr (14, [.int 0, .ref tE, .int 0]))]) [0, 2] rfl
  have hKc := hK.sub (tys' := []) [] rfl
  refine va_calli (va_runV (As := [.int p1, .int p2]) (rest := [.ref m0]) ⟨hx, hb, hml, hown, hq⟩ (c_areSeats l hst tE adK adV dC dI m0 lr ld o1 o2 o3 o4 o5 o6 o7 o8 o9 o10 t1 t2 t3 t4 t5 th p1 p2 s.heap.size) (tcV 2 hq q_1650 q_12 q_1647 q_1649 qp_26 rfl rfl (by decide +kernel) ⟨Nat.le_of_ble_eq_true rfl, Nat.le_of_ble_eq_true rfl⟩) (preR.V (va_recv hK hP (ci := 12) (q0 := 0) rfl rfl) (preR.of hPc hKc ham hS hA)) rfl rfl hl.1 rfl (lv_room (Nat.le_of_ble_eq_true rfl)) dX12_isNoChange_4 ⟨Nat.le_of_ble_eq_true rfl, Nat.le_of_ble_eq_true rfl⟩) hS (fun q _ h => hA q (Nat.le_trans hS.1 h)) (fun q h => hA q (Nat.le_trans hS.1 h)) (fun r_1 u t H1 locs ht hvm hw hB hz1 hk1 hS => ?_)
  have hP : va_P (dC, dI) cls [(m0, .inr (12, [.int th, .ref lr, .ref ld, .ref o1, .int (-1), .int (-1), .int 0, .ref o2, .ref o3, .ref o4, .ref o5, .ref o6, .ref o7, .ref o8, .ref o9, .ref o10, .int 0, .int 0, .null, .int 0, .int 45, .ref t1, .ref t2, .ref t3, .ref t4, .ref t5])), (lr, .inr (14, [.int 0, .ref tE, .int 0])), (ld, .inr (14, [.int 0, .ref tE, .int 0]))] H1 := ro_keep hP hk1
  generalize H1 = H at hP hS ⊢
  refine W.widen (k := 0) (n := 0) (Nat.le_of_ble_eq_true rfl) (Nat.le_of_ble_eq_true rfl) ?_
  have hw : r_1 = 0 := hw
  subst hw
  refine lv_if_ne (tgt := 14) hx hb dX12_isNoChange_7 (by decide) (fun c_2 => ?_) (fun c_2 => ?_)
  · exact absurd c_2 (by decide)
  · refine lv_iconst (v := 1) hx hb dX12_isNoChange_10 (by decide) ?_
    refine lv_goto (tgt := 35) hx hb dX12_isNoChange_11 (by decide) ?_
    have hPc := hP.sub (ws' := [(m0, .inr (12, [.int th, .ref lr, .ref ld, .ref o1, .int (-1), .int (-1), .int 0, .ref o2, .ref o3, .ref o4, .ref o5, .ref o6, .ref o7, .ref o8, .ref o9, .ref o10, .int 0, .int 0, .null, .int 0, .int 45, .ref t1, .ref t2, .ref t3, .ref t4, .ref t5]))]) [0] rfl
    have hKc := hK.sub (tys' := []) [] rfl
    have hDc := hD.sub (ws' := [(m0, .inr (12, [.int th, .ref lr, .ref ld, .ref o1, .int (-1), .int (-1), .int 0, .ref o2, .ref o3, .ref o4, .ref o5, .ref o6, .ref o7, .ref o8, .ref o9, .ref o10, .int 0, .int 0, .null, .int 0, .int 45, .ref t1, .ref t2, .ref t3, .ref t4, .ref t5]))]) [0] (by decide) rfl
    have hFc := va_free (wc := [(m0, .inr (12, [.int th, .ref lr, .ref ld, .ref o1, .int (-1), .int (-1), .int 0, .ref o2, .ref o3, .ref o4, .ref o5, .ref o6, .ref o7, .ref o8, .ref o9, .ref o10, .int 0, .int 0, .null, .int 0, .int 45, .ref t1, .ref t2, .ref t3, .ref t4, .ref t5]))]) hD hS hA [0] rfl
    refine va_calli (va_runV (As := [.int 1]) (rest := []) ⟨hx, hb, hml, hown, hq⟩ (c_isWrong1 l hst tE adK adV dC dI m0 lr ld o1 o2 o3 o4 o5 o6 o7 o8 o9 o10 t1 t2 t3 t4 t5 th H.size) (tcV 1 hq q_1488 q_12 q_1485 q_1487 qp_22 rfl rfl (by decide +kernel) ⟨Nat.le_of_ble_eq_true rfl, Nat.le_of_ble_eq_true rfl⟩) (pre.V (va_recv hK hP (ci := 12) (q0 := 0) rfl rfl) (pre.of hPc hDc hKc ham hS hFc)) rfl rfl hl.1 rfl (lv_room (Nat.le_of_ble_eq_true rfl)) dX12_isNoChange_35 ⟨Nat.le_of_ble_eq_true rfl, Nat.le_of_ble_eq_true rfl⟩) hS (fun q _ h => hFc q h) hFc (fun r_3 u t H1 locs ht hvm hw hB hz1 hk1 hS => ?_)
    obtain ⟨hP1, hK1, hD1⟩ := hB
    rw [ht] at hP1
    have hK1 := va_K.moved hvm.symm hK1
    obtain ⟨hP, hD⟩ := va_join (wr := [(lr, .inr (14, [.int 0, .ref tE, .int 0])), (ld, .inr (14, [.int 0, .ref tE, .int 0]))]) (w1 := [(m0, .inr (12, [.int 1, .ref lr, .ref ld, .ref o1, .int (-1), .int (-1), .int 0, .ref o2, .ref o3, .ref o4, .ref o5, .ref o6, .ref o7, .ref o8, .ref o9, .ref o10, .int 0, .int 0, .null, .int 0, .int 45, .ref t1, .ref t2, .ref t3, .ref t4, .ref t5]))]) (wc := [(m0, .inr (12, [.int th, .ref lr, .ref ld, .ref o1, .int (-1), .int (-1), .int 0, .ref o2, .ref o3, .ref o4, .ref o5, .ref o6, .ref o7, .ref o8, .ref o9, .ref o10, .int 0, .int 0, .null, .int 0, .int 45, .ref t1, .ref t2, .ref t3, .ref t4, .ref t5]))]) hP hD [0] [1, 2] rfl rfl (by decide) (by decide) hk1 hFc hP1 hD1
    have hK := (hK.sub (tys' := []) [] rfl).app hK1
    generalize H1 = H at hP hS ⊢
    have hP : va_P (dC, dI) cls [(lr, .inr (14, [.int 0, .ref tE, .int 0])), (ld, .inr (14, [.int 0, .ref tE, .int 0])), (m0, .inr (12, [.int 1, .ref lr, .ref ld, .ref o1, .int (-1), .int (-1), .int 0, .ref o2, .ref o3, .ref o4, .ref o5, .ref o6, .ref o7, .ref o8, .ref o9, .ref o10, .int 0, .int 0, .null, .int 0, .int 45, .ref t1, .ref t2, .ref t3, .ref t4, .ref t5]))] H := hP
    have hD : va_D A [(lr, .inr (14, [.int 0, .ref tE, .int 0])), (ld, .inr (14, [.int 0, .ref tE, .int 0])), (m0, .inr (12, [.int 1, .ref lr, .ref ld, .ref o1, .int (-1), .int (-1), .int 0, .ref o2, .ref o3, .ref o4, .ref o5, .ref o6, .ref o7, .ref o8, .ref o9, .ref o10, .int 0, .int 0, .null, .int 0, .int 45, .ref t1, .ref t2, .ref t3, .ref t4, .ref t5]))] := hD
    have hK : va_K (dC, dI) cls [] s := hK
    refine W.widen (k := 0) (n := 0) (Nat.le_of_ble_eq_true rfl) (Nat.le_of_ble_eq_true rfl) ?_
    have hw : r_3 = 1 := hw
    subst hw
    refine W.widen (k := 0) (n := 0) (Nat.le_of_ble_eq_true rfl) (Nat.le_of_ble_eq_true rfl) ?_
    have hP9 := hP.sub (ws' := [(m0, .inr (12, [.int 1, .ref lr, .ref ld, .ref o1, .int (-1), .int (-1), .int 0, .ref o2, .ref o3, .ref o4, .ref o5, .ref o6, .ref o7, .ref o8, .ref o9, .ref o10, .int 0, .int 0, .null, .int 0, .int 45, .ref t1, .ref t2, .ref t3, .ref t4, .ref t5]))]) [2] rfl
    have hD9 := hD.sub (ws' := [(m0, .inr (12, [.int 1, .ref lr, .ref ld, .ref o1, .int (-1), .int (-1), .int 0, .ref o2, .ref o3, .ref o4, .ref o5, .ref o6, .ref o7, .ref o8, .ref o9, .ref o10, .int 0, .int 0, .null, .int 0, .int 45, .ref t1, .ref t2, .ref t3, .ref t4, .ref t5]))]) [2] (by decide) rfl
    have hK9 := hK.sub (tys' := []) [] rfl
    exact W.zret (v := 1) hx hb hr (by decide) (fun t ht hW => ⟨⟨1, (), rfl, rfl, ⟨by rw [ht]; exact hP9, va_K.moved hW.alike hK9, hD9⟩⟩, hS.F ht⟩) hS.2.2 dX12_isNoChange_38
abbrev cX12_seems : ByteArray := prog_13_method_6_code
def yX12_seems : MethodName := ⟨RX12, "seems", "(II)I"⟩
theorem dX12_seems_0 : decode cX12_seems 0 = .ok (.aload_n 0, 1) := by decide +kernel
theorem dX12_seems_1 : decode cX12_seems 1 = .ok (.aload_n 0, 1) := by decide +kernel
theorem dX12_seems_2 : decode cX12_seems 2 = .ok (.getfield 22, 3) := by decide +kernel
theorem dX12_seems_5 : decode cX12_seems 5 = .ok (.iload_n 1, 1) := by decide +kernel
theorem dX12_seems_6 : decode cX12_seems 6 = .ok (.invokestatic 123, 3) := by decide +kernel
theorem dX12_seems_9 : decode cX12_seems 9 = .ok (.ifCond .eq 14, 3) := by decide +kernel
theorem dX12_seems_23 : decode cX12_seems 23 = .ok (.iconst 1, 1) := by decide +kernel
theorem dX12_seems_24 : decode cX12_seems 24 = .ok (.goto 15, 3) := by decide +kernel
theorem dX12_seems_39 : decode cX12_seems 39 = .ok (.invokevirtual 110, 3) := by decide +kernel
theorem dX12_seems_42 : decode cX12_seems 42 = .ok (.ifCond .eq 5, 3) := by decide +kernel
theorem dX12_seems_45 : decode cX12_seems 45 = .ok (.iconst 0, 1) := by decide +kernel
theorem dX12_seems_46 : decode cX12_seems 46 = .ok (.ireturn, 1) := by decide +kernel
set_option maxHeartbeats 4000000 in
set_option maxRecDepth 100000 in
theorem c_M_seems (l : Launch) (hst : l.stackTraces = false) (tE : Nat) (adK adV : Nat → Nat) (dC : Nat → ClassId) (dI : Nat → Nat → Nat) (m0 : Nat) (lr : Nat) (ld : Nat) (o1 : Nat) (o2 : Nat) (o3 : Nat) (o4 : Nat) (o5 : Nat) (o6 : Nat) (o7 : Nat) (o8 : Nat) (o9 : Nat) (o10 : Nat) (t1 : Nat) (t2 : Nat) (t3 : Nat) (t4 : Nat) (t5 : Nat) (th : Int32) (p1 : Int32) (p2 : Int32) (sz : Nat) : Met l yX12_seems (Cond.code yX12_seems cX12_seems 4 (some .int) :: tw) ({ frames := 2, cells := 0, slots := 0, locals := 41 }) (va_Pc [.ref m0, .int p1, .int p2] (pre tE adK adV (dC, dI) [(m0, .inr (12, [.int th, .ref lr, .ref ld, .ref o1, .int (-1), .int (-1), .int 0, .ref o2, .ref o3, .ref o4, .ref o5, .ref o6, .ref o7, .ref o8, .ref o9, .ref o10, .int 0, .int 0, .null, .int 0, .int 45, .ref t1, .ref t2, .ref t3, .ref t4, .ref t5])), (lr, .inr (14, [.int 0, .ref tE, .int 0])), (ld, .inr (14, [.int 0, .ref tE, .int 0]))] [] sz)) (va_Qi (fun (r : Int32) (_ : Unit) => True) (fun (_ : Unit) (t : State) => va_P (dC, dI) cls [(m0, .inr (12, [.int 1, .ref lr, .ref ld, .ref o1, .int (-1), .int (-1), .int 0, .ref o2, .ref o3, .ref o4, .ref o5, .ref o6, .ref o7, .ref o8, .ref o9, .ref o10, .int 0, .int 0, .null, .int 0, .int 45, .ref t1, .ref t2, .ref t3, .ref t4, .ref t5]))] t.heap ∧ va_K (dC, dI) cls [] t ∧ va_D (va_A [(m0, .inr (12, [.int th, .ref lr, .ref ld, .ref o1, .int (-1), .int (-1), .int 0, .ref o2, .ref o3, .ref o4, .ref o5, .ref o6, .ref o7, .ref o8, .ref o9, .ref o10, .int 0, .int 0, .null, .int 0, .int 45, .ref t1, .ref t2, .ref t3, .ref t4, .ref t5])), (lr, .inr (14, [.int 0, .ref tE, .int 0])), (ld, .inr (14, [.int 0, .ref tE, .int 0]))] sz) [(m0, .inr (12, [.int 1, .ref lr, .ref ld, .ref o1, .int (-1), .int (-1), .int 0, .ref o2, .ref o3, .ref o4, .ref o5, .ref o6, .ref o7, .ref o8, .ref o9, .ref o10, .int 0, .int 0, .null, .int 0, .int 45, .ref t1, .ref t2, .ref t3, .ref t4, .ref t5]))]) (va_A [(m0, .inr (12, [.int th, .ref lr, .ref ld, .ref o1, .int (-1), .int (-1), .int 0, .ref o2, .ref o3, .ref o4, .ref o5, .ref o6, .ref o7, .ref o8, .ref o9, .ref o10, .int 0, .int 0, .null, .int 0, .int 45, .ref t1, .ref t2, .ref t3, .ref t4, .ref t5])), (lr, .inr (14, [.int 0, .ref tE, .int 0])), (ld, .inr (14, [.int 0, .ref tE, .int 0]))] sz)) 0 0 (va_A [(m0, .inr (12, [.int th, .ref lr, .ref ld, .ref o1, .int (-1), .int (-1), .int 0, .ref o2, .ref o3, .ref o4, .ref o5, .ref o6, .ref o7, .ref o8, .ref o9, .ref o10, .int 0, .int 0, .null, .int 0, .int 45, .ref t1, .ref t2, .ref t3, .ref t4, .ref t5])), (lr, .inr (14, [.int 0, .ref tE, .int 0])), (ld, .inr (14, [.int 0, .ref tE, .int 0]))] sz) := by
  refine Met.ofW (cc := cX12_seems) (maxL := 4) (ret := (some .int)) (by decide) rfl ?_
  intro p e s m args below meth c s₁ B hml hv
  obtain ⟨rfl, hsz, hP, hK, hD0, ham⟩ := hv
  have hx := B.exec
  have hb := B.bytes
  have hr := B.returns
  have hts := atoms_spec B.pre
  have hq : ∀ w ∈ tw, w.before _ s = true := fun w h => hts w (List.mem_cons_of_mem _ h)
  have hown : s.vm.findClass RX12 = some m.cls := findClass_of_methodNamed B.named
  have hlocks := B.notSynchronized
  subst hsz
  have hD := hD0.self (sz := s.heap.size)
  generalize hAe : va_A [(m0, .inr (12, [.int th, .ref lr, .ref ld, .ref o1, .int (-1), .int (-1), .int 0, .ref o2, .ref o3, .ref o4, .ref o5, .ref o6, .ref o7, .ref o8, .ref o9, .ref o10, .int 0, .int 0, .null, .int 0, .int 45, .ref t1, .ref t2, .ref t3, .ref t4, .ref t5])), (lr, .inr (14, [.int 0, .ref tE, .int 0])), (ld, .inr (14, [.int 0, .ref tE, .int 0]))] s.heap.size = A at hD ham ⊢
  have hA : ∀ q : Nat, s.heap.size ≤ q → A q := fun q h => by rw [← hAe]; exact Or.inr h
  have hS : va_S A s.heap s.heap [] := va_S.rf
  have hP : va_P (dC, dI) cls [(m0, .inr (12, [.int th, .ref lr, .ref ld, .ref o1, .int (-1), .int (-1), .int 0, .ref o2, .ref o3, .ref o4, .ref o5, .ref o6, .ref o7, .ref o8, .ref o9, .ref o10, .int 0, .int 0, .null, .int 0, .int 45, .ref t1, .ref t2, .ref t3, .ref t4, .ref t5])), (lr, .inr (14, [.int 0, .ref tE, .int 0])), (ld, .inr (14, [.int 0, .ref tE, .int 0]))] s.heap := hP
  have hl := lv_entry ([.ref m0, .int p1, .int p2]) (n := 4) (Nat.le_of_ble_eq_true rfl)
  rw [lg_entry_eq]
  generalize (lg_sl ([.ref m0, .int p1, .int p2]) ++ List.replicate (4 - (lg_sl ([.ref m0, .int p1, .int p2])).length) Slot.unset).toArray = ls at hl ⊢
  have hl : lv_has ls 4 [(0, .ref m0), (1, .int p1), (2, .int p2)] := hl
  refine lv_aload_n hx hb dX12_seems_0 rfl (lv_at hl 0 rfl) ?_
  refine lv_aload_n hx hb dX12_seems_1 rfl (lv_at hl 0 rfl) ?_
  refine va_get (D := (dC, dI)) (ci := 12) (v := .ref lr) (C := RX12) (T := TX12) (N := 26) hx hb hq i_X12 hown hK hP 0 rfl rfl 1 (by decide) (hq _ q_1305) (fun _ h9 => h9) rfl dX12_seems_2 ?_
  refine lv_iload_n hx hb dX12_seems_5 rfl (lv_at hl 1 rfl) ?_
  have hPc := hP.sub (ws' := [(lr, .inr (14, [.int 0, .ref tE, .int 0]))]) [1] rfl
  have hKc := hK.sub (tys' := []) [] rfl
  refine va_calli (va_runS (As := [.ref lr, .int p1]) (rest := [.ref m0]) ⟨hx, hb, hml, hown, hq⟩ (c_isOf l hst tE adK adV dC dI lr p1 s.heap.size) (tcS 2 hq q_1599 q_12 q_1597 q_1598 rfl rfl (by decide +kernel) ⟨Nat.le_of_ble_eq_true rfl, Nat.le_of_ble_eq_true rfl⟩) (preR.S (preR.of hPc hKc ham hS hA)) rfl rfl hl.1 rfl (lv_room (Nat.le_of_ble_eq_true rfl)) dX12_seems_6 ⟨Nat.le_of_ble_eq_true rfl, Nat.le_of_ble_eq_true rfl⟩) hS (fun q _ h => hA q (Nat.le_trans hS.1 h)) (fun q h => hA q (Nat.le_trans hS.1 h)) (fun r_1 u t H1 locs ht hvm hw hB hz1 hk1 hS => ?_)
  have hP : va_P (dC, dI) cls [(m0, .inr (12, [.int th, .ref lr, .ref ld, .ref o1, .int (-1), .int (-1), .int 0, .ref o2, .ref o3, .ref o4, .ref o5, .ref o6, .ref o7, .ref o8, .ref o9, .ref o10, .int 0, .int 0, .null, .int 0, .int 45, .ref t1, .ref t2, .ref t3, .ref t4, .ref t5])), (lr, .inr (14, [.int 0, .ref tE, .int 0])), (ld, .inr (14, [.int 0, .ref tE, .int 0]))] H1 := ro_keep hP hk1
  generalize H1 = H at hP hS ⊢
  refine W.widen (k := 0) (n := 0) (Nat.le_of_ble_eq_true rfl) (Nat.le_of_ble_eq_true rfl) ?_
  have hw : r_1 = 0 := hw
  subst hw
  refine lv_if_eq (tgt := 23) hx hb dX12_seems_9 (by decide) (fun c_2 => ?_) (fun c_2 => ?_)
  · refine lv_iconst (v := 1) hx hb dX12_seems_23 (by decide) ?_
    refine lv_goto (tgt := 39) hx hb dX12_seems_24 (by decide) ?_
    have hPc := hP.sub (ws' := [(m0, .inr (12, [.int th, .ref lr, .ref ld, .ref o1, .int (-1), .int (-1), .int 0, .ref o2, .ref o3, .ref o4, .ref o5, .ref o6, .ref o7, .ref o8, .ref o9, .ref o10, .int 0, .int 0, .null, .int 0, .int 45, .ref t1, .ref t2, .ref t3, .ref t4, .ref t5]))]) [0] rfl
    have hKc := hK.sub (tys' := []) [] rfl
    have hDc := hD.sub (ws' := [(m0, .inr (12, [.int th, .ref lr, .ref ld, .ref o1, .int (-1), .int (-1), .int 0, .ref o2, .ref o3, .ref o4, .ref o5, .ref o6, .ref o7, .ref o8, .ref o9, .ref o10, .int 0, .int 0, .null, .int 0, .int 45, .ref t1, .ref t2, .ref t3, .ref t4, .ref t5]))]) [0] (by decide) rfl
    have hFc := va_free (wc := [(m0, .inr (12, [.int th, .ref lr, .ref ld, .ref o1, .int (-1), .int (-1), .int 0, .ref o2, .ref o3, .ref o4, .ref o5, .ref o6, .ref o7, .ref o8, .ref o9, .ref o10, .int 0, .int 0, .null, .int 0, .int 45, .ref t1, .ref t2, .ref t3, .ref t4, .ref t5]))]) hD hS hA [0] rfl
    refine va_calli (va_runV (As := [.int 1]) (rest := []) ⟨hx, hb, hml, hown, hq⟩ (c_isWrong1 l hst tE adK adV dC dI m0 lr ld o1 o2 o3 o4 o5 o6 o7 o8 o9 o10 t1 t2 t3 t4 t5 th H.size) (tcV 1 hq q_1488 q_12 q_1485 q_1487 qp_22 rfl rfl (by decide +kernel) ⟨Nat.le_of_ble_eq_true rfl, Nat.le_of_ble_eq_true rfl⟩) (pre.V (va_recv hK hP (ci := 12) (q0 := 0) rfl rfl) (pre.of hPc hDc hKc ham hS hFc)) rfl rfl hl.1 rfl (lv_room (Nat.le_of_ble_eq_true rfl)) dX12_seems_39 ⟨Nat.le_of_ble_eq_true rfl, Nat.le_of_ble_eq_true rfl⟩) hS (fun q _ h => hFc q h) hFc (fun r_3 u t H1 locs ht hvm hw hB hz1 hk1 hS => ?_)
    obtain ⟨hP1, hK1, hD1⟩ := hB
    rw [ht] at hP1
    have hK1 := va_K.moved hvm.symm hK1
    obtain ⟨hP, hD⟩ := va_join (wr := [(lr, .inr (14, [.int 0, .ref tE, .int 0])), (ld, .inr (14, [.int 0, .ref tE, .int 0]))]) (w1 := [(m0, .inr (12, [.int 1, .ref lr, .ref ld, .ref o1, .int (-1), .int (-1), .int 0, .ref o2, .ref o3, .ref o4, .ref o5, .ref o6, .ref o7, .ref o8, .ref o9, .ref o10, .int 0, .int 0, .null, .int 0, .int 45, .ref t1, .ref t2, .ref t3, .ref t4, .ref t5]))]) (wc := [(m0, .inr (12, [.int th, .ref lr, .ref ld, .ref o1, .int (-1), .int (-1), .int 0, .ref o2, .ref o3, .ref o4, .ref o5, .ref o6, .ref o7, .ref o8, .ref o9, .ref o10, .int 0, .int 0, .null, .int 0, .int 45, .ref t1, .ref t2, .ref t3, .ref t4, .ref t5]))]) hP hD [0] [1, 2] rfl rfl (by decide) (by decide) hk1 hFc hP1 hD1
    have hK := (hK.sub (tys' := []) [] rfl).app hK1
    generalize H1 = H at hP hS ⊢
    have hP : va_P (dC, dI) cls [(lr, .inr (14, [.int 0, .ref tE, .int 0])), (ld, .inr (14, [.int 0, .ref tE, .int 0])), (m0, .inr (12, [.int 1, .ref lr, .ref ld, .ref o1, .int (-1), .int (-1), .int 0, .ref o2, .ref o3, .ref o4, .ref o5, .ref o6, .ref o7, .ref o8, .ref o9, .ref o10, .int 0, .int 0, .null, .int 0, .int 45, .ref t1, .ref t2, .ref t3, .ref t4, .ref t5]))] H := hP
    have hD : va_D A [(lr, .inr (14, [.int 0, .ref tE, .int 0])), (ld, .inr (14, [.int 0, .ref tE, .int 0])), (m0, .inr (12, [.int 1, .ref lr, .ref ld, .ref o1, .int (-1), .int (-1), .int 0, .ref o2, .ref o3, .ref o4, .ref o5, .ref o6, .ref o7, .ref o8, .ref o9, .ref o10, .int 0, .int 0, .null, .int 0, .int 45, .ref t1, .ref t2, .ref t3, .ref t4, .ref t5]))] := hD
    have hK : va_K (dC, dI) cls [] s := hK
    refine W.widen (k := 0) (n := 0) (Nat.le_of_ble_eq_true rfl) (Nat.le_of_ble_eq_true rfl) ?_
    have hw : r_3 = 1 := hw
    subst hw
    refine lv_if_eq (tgt := 47) hx hb dX12_seems_42 (by decide) (fun c_4 => ?_) (fun c_4 => ?_)
    · exact absurd c_4 (by decide)
    · refine lv_iconst (v := 0) hx hb dX12_seems_45 (by decide) ?_
      refine W.widen (k := 0) (n := 0) (Nat.le_of_ble_eq_true rfl) (Nat.le_of_ble_eq_true rfl) ?_
      have hP9 := hP.sub (ws' := [(m0, .inr (12, [.int 1, .ref lr, .ref ld, .ref o1, .int (-1), .int (-1), .int 0, .ref o2, .ref o3, .ref o4, .ref o5, .ref o6, .ref o7, .ref o8, .ref o9, .ref o10, .int 0, .int 0, .null, .int 0, .int 45, .ref t1, .ref t2, .ref t3, .ref t4, .ref t5]))]) [2] rfl
      have hD9 := hD.sub (ws' := [(m0, .inr (12, [.int 1, .ref lr, .ref ld, .ref o1, .int (-1), .int (-1), .int 0, .ref o2, .ref o3, .ref o4, .ref o5, .ref o6, .ref o7, .ref o8, .ref o9, .ref o10, .int 0, .int 0, .null, .int 0, .int 45, .ref t1, .ref t2, .ref t3, .ref t4, .ref t5]))]) [2] (by decide) rfl
      have hK9 := hK.sub (tys' := []) [] rfl
      exact W.iret (v := 0) hx hb hr (fun t ht hW => ⟨⟨0, (), rfl, trivial, ⟨by rw [ht]; exact hP9, va_K.moved hW.alike hK9, hD9⟩⟩, hS.F ht⟩) hS.2.2 dX12_seems_46
  · exact absurd c_2 (by decide)
abbrev cX12_seat : ByteArray := prog_13_method_7_code
def yX12_seat : MethodName := ⟨RX12, "seat", "(I)I"⟩
theorem dX12_seat_0 : decode cX12_seat 0 = .ok (.aload_n 0, 1) := by decide +kernel
theorem dX12_seat_1 : decode cX12_seat 1 = .ok (.aload_n 0, 1) := by decide +kernel
theorem dX12_seat_2 : decode cX12_seat 2 = .ok (.getfield 22, 3) := by decide +kernel
theorem dX12_seat_5 : decode cX12_seat 5 = .ok (.iload_n 1, 1) := by decide +kernel
theorem dX12_seat_6 : decode cX12_seat 6 = .ok (.invokestatic 123, 3) := by decide +kernel
theorem dX12_seat_9 : decode cX12_seat 9 = .ok (.ifCond .ne 7, 3) := by decide +kernel
theorem dX12_seat_12 : decode cX12_seat 12 = .ok (.iconst 1, 1) := by decide +kernel
theorem dX12_seat_13 : decode cX12_seat 13 = .ok (.goto 33, 3) := by decide +kernel
theorem dX12_seat_46 : decode cX12_seat 46 = .ok (.invokevirtual 110, 3) := by decide +kernel
theorem dX12_seat_49 : decode cX12_seat 49 = .ok (.ifCond .eq 5, 3) := by decide +kernel
theorem dX12_seat_52 : decode cX12_seat 52 = .ok (.iconst 0, 1) := by decide +kernel
theorem dX12_seat_53 : decode cX12_seat 53 = .ok (.ireturn, 1) := by decide +kernel
set_option maxHeartbeats 4000000 in
set_option maxRecDepth 100000 in
theorem c_M_seat (l : Launch) (hst : l.stackTraces = false) (tE : Nat) (adK adV : Nat → Nat) (dC : Nat → ClassId) (dI : Nat → Nat → Nat) (m0 : Nat) (lr : Nat) (ld : Nat) (o1 : Nat) (o2 : Nat) (o3 : Nat) (o4 : Nat) (o5 : Nat) (o6 : Nat) (o7 : Nat) (o8 : Nat) (o9 : Nat) (o10 : Nat) (t1 : Nat) (t2 : Nat) (t3 : Nat) (t4 : Nat) (t5 : Nat) (th : Int32) (p1 : Int32) (sz : Nat) : Met l yX12_seat (Cond.code yX12_seat cX12_seat 2 (some .int) :: tw) ({ frames := 2, cells := 0, slots := 0, locals := 41 }) (va_Pc [.ref m0, .int p1] (pre tE adK adV (dC, dI) [(m0, .inr (12, [.int th, .ref lr, .ref ld, .ref o1, .int (-1), .int (-1), .int 0, .ref o2, .ref o3, .ref o4, .ref o5, .ref o6, .ref o7, .ref o8, .ref o9, .ref o10, .int 0, .int 0, .null, .int 0, .int 45, .ref t1, .ref t2, .ref t3, .ref t4, .ref t5])), (lr, .inr (14, [.int 0, .ref tE, .int 0])), (ld, .inr (14, [.int 0, .ref tE, .int 0]))] [] sz)) (va_Qi (fun (r : Int32) (_ : Unit) => True) (fun (_ : Unit) (t : State) => va_P (dC, dI) cls [(m0, .inr (12, [.int 1, .ref lr, .ref ld, .ref o1, .int (-1), .int (-1), .int 0, .ref o2, .ref o3, .ref o4, .ref o5, .ref o6, .ref o7, .ref o8, .ref o9, .ref o10, .int 0, .int 0, .null, .int 0, .int 45, .ref t1, .ref t2, .ref t3, .ref t4, .ref t5]))] t.heap ∧ va_K (dC, dI) cls [] t ∧ va_D (va_A [(m0, .inr (12, [.int th, .ref lr, .ref ld, .ref o1, .int (-1), .int (-1), .int 0, .ref o2, .ref o3, .ref o4, .ref o5, .ref o6, .ref o7, .ref o8, .ref o9, .ref o10, .int 0, .int 0, .null, .int 0, .int 45, .ref t1, .ref t2, .ref t3, .ref t4, .ref t5])), (lr, .inr (14, [.int 0, .ref tE, .int 0])), (ld, .inr (14, [.int 0, .ref tE, .int 0]))] sz) [(m0, .inr (12, [.int 1, .ref lr, .ref ld, .ref o1, .int (-1), .int (-1), .int 0, .ref o2, .ref o3, .ref o4, .ref o5, .ref o6, .ref o7, .ref o8, .ref o9, .ref o10, .int 0, .int 0, .null, .int 0, .int 45, .ref t1, .ref t2, .ref t3, .ref t4, .ref t5]))]) (va_A [(m0, .inr (12, [.int th, .ref lr, .ref ld, .ref o1, .int (-1), .int (-1), .int 0, .ref o2, .ref o3, .ref o4, .ref o5, .ref o6, .ref o7, .ref o8, .ref o9, .ref o10, .int 0, .int 0, .null, .int 0, .int 45, .ref t1, .ref t2, .ref t3, .ref t4, .ref t5])), (lr, .inr (14, [.int 0, .ref tE, .int 0])), (ld, .inr (14, [.int 0, .ref tE, .int 0]))] sz)) 0 0 (va_A [(m0, .inr (12, [.int th, .ref lr, .ref ld, .ref o1, .int (-1), .int (-1), .int 0, .ref o2, .ref o3, .ref o4, .ref o5, .ref o6, .ref o7, .ref o8, .ref o9, .ref o10, .int 0, .int 0, .null, .int 0, .int 45, .ref t1, .ref t2, .ref t3, .ref t4, .ref t5])), (lr, .inr (14, [.int 0, .ref tE, .int 0])), (ld, .inr (14, [.int 0, .ref tE, .int 0]))] sz) := by
  refine Met.ofW (cc := cX12_seat) (maxL := 2) (ret := (some .int)) (by decide) rfl ?_
  intro p e s m args below meth c s₁ B hml hv
  obtain ⟨rfl, hsz, hP, hK, hD0, ham⟩ := hv
  have hx := B.exec
  have hb := B.bytes
  have hr := B.returns
  have hts := atoms_spec B.pre
  have hq : ∀ w ∈ tw, w.before _ s = true := fun w h => hts w (List.mem_cons_of_mem _ h)
  have hown : s.vm.findClass RX12 = some m.cls := findClass_of_methodNamed B.named
  have hlocks := B.notSynchronized
  subst hsz
  have hD := hD0.self (sz := s.heap.size)
  generalize hAe : va_A [(m0, .inr (12, [.int th, .ref lr, .ref ld, .ref o1, .int (-1), .int (-1), .int 0, .ref o2, .ref o3, .ref o4, .ref o5, .ref o6, .ref o7, .ref o8, .ref o9, .ref o10, .int 0, .int 0, .null, .int 0, .int 45, .ref t1, .ref t2, .ref t3, .ref t4, .ref t5])), (lr, .inr (14, [.int 0, .ref tE, .int 0])), (ld, .inr (14, [.int 0, .ref tE, .int 0]))] s.heap.size = A at hD ham ⊢
  have hA : ∀ q : Nat, s.heap.size ≤ q → A q := fun q h => by rw [← hAe]; exact Or.inr h
  have hS : va_S A s.heap s.heap [] := va_S.rf
  have hP : va_P (dC, dI) cls [(m0, .inr (12, [.int th, .ref lr, .ref ld, .ref o1, .int (-1), .int (-1), .int 0, .ref o2, .ref o3, .ref o4, .ref o5, .ref o6, .ref o7, .ref o8, .ref o9, .ref o10, .int 0, .int 0, .null, .int 0, .int 45, .ref t1, .ref t2, .ref t3, .ref t4, .ref t5])), (lr, .inr (14, [.int 0, .ref tE, .int 0])), (ld, .inr (14, [.int 0, .ref tE, .int 0]))] s.heap := hP
  have hl := lv_entry ([.ref m0, .int p1]) (n := 2) (Nat.le_of_ble_eq_true rfl)
  rw [lg_entry_eq]
  generalize (lg_sl ([.ref m0, .int p1]) ++ List.replicate (2 - (lg_sl ([.ref m0, .int p1])).length) Slot.unset).toArray = ls at hl ⊢
  have hl : lv_has ls 2 [(0, .ref m0), (1, .int p1)] := hl
  refine lv_aload_n hx hb dX12_seat_0 rfl (lv_at hl 0 rfl) ?_
  refine lv_aload_n hx hb dX12_seat_1 rfl (lv_at hl 0 rfl) ?_
  refine va_get (D := (dC, dI)) (ci := 12) (v := .ref lr) (C := RX12) (T := TX12) (N := 26) hx hb hq i_X12 hown hK hP 0 rfl rfl 1 (by decide) (hq _ q_1305) (fun _ h9 => h9) rfl dX12_seat_2 ?_
  refine lv_iload_n hx hb dX12_seat_5 rfl (lv_at hl 1 rfl) ?_
  have hPc := hP.sub (ws' := [(lr, .inr (14, [.int 0, .ref tE, .int 0]))]) [1] rfl
  have hKc := hK.sub (tys' := []) [] rfl
  refine va_calli (va_runS (As := [.ref lr, .int p1]) (rest := [.ref m0]) ⟨hx, hb, hml, hown, hq⟩ (c_isOf l hst tE adK adV dC dI lr p1 s.heap.size) (tcS 2 hq q_1599 q_12 q_1597 q_1598 rfl rfl (by decide +kernel) ⟨Nat.le_of_ble_eq_true rfl, Nat.le_of_ble_eq_true rfl⟩) (preR.S (preR.of hPc hKc ham hS hA)) rfl rfl hl.1 rfl (lv_room (Nat.le_of_ble_eq_true rfl)) dX12_seat_6 ⟨Nat.le_of_ble_eq_true rfl, Nat.le_of_ble_eq_true rfl⟩) hS (fun q _ h => hA q (Nat.le_trans hS.1 h)) (fun q h => hA q (Nat.le_trans hS.1 h)) (fun r_1 u t H1 locs ht hvm hw hB hz1 hk1 hS => ?_)
  have hP : va_P (dC, dI) cls [(m0, .inr (12, [.int th, .ref lr, .ref ld, .ref o1, .int (-1), .int (-1), .int 0, .ref o2, .ref o3, .ref o4, .ref o5, .ref o6, .ref o7, .ref o8, .ref o9, .ref o10, .int 0, .int 0, .null, .int 0, .int 45, .ref t1, .ref t2, .ref t3, .ref t4, .ref t5])), (lr, .inr (14, [.int 0, .ref tE, .int 0])), (ld, .inr (14, [.int 0, .ref tE, .int 0]))] H1 := ro_keep hP hk1
  generalize H1 = H at hP hS ⊢
  refine W.widen (k := 0) (n := 0) (Nat.le_of_ble_eq_true rfl) (Nat.le_of_ble_eq_true rfl) ?_
  have hw : r_1 = 0 := hw
  subst hw
  refine lv_if_ne (tgt := 16) hx hb dX12_seat_9 (by decide) (fun c_2 => ?_) (fun c_2 => ?_)
  · exact absurd c_2 (by decide)
  · refine lv_iconst (v := 1) hx hb dX12_seat_12 (by decide) ?_
    refine lv_goto (tgt := 46) hx hb dX12_seat_13 (by decide) ?_
    have hPc := hP.sub (ws' := [(m0, .inr (12, [.int th, .ref lr, .ref ld, .ref o1, .int (-1), .int (-1), .int 0, .ref o2, .ref o3, .ref o4, .ref o5, .ref o6, .ref o7, .ref o8, .ref o9, .ref o10, .int 0, .int 0, .null, .int 0, .int 45, .ref t1, .ref t2, .ref t3, .ref t4, .ref t5]))]) [0] rfl
    have hKc := hK.sub (tys' := []) [] rfl
    have hDc := hD.sub (ws' := [(m0, .inr (12, [.int th, .ref lr, .ref ld, .ref o1, .int (-1), .int (-1), .int 0, .ref o2, .ref o3, .ref o4, .ref o5, .ref o6, .ref o7, .ref o8, .ref o9, .ref o10, .int 0, .int 0, .null, .int 0, .int 45, .ref t1, .ref t2, .ref t3, .ref t4, .ref t5]))]) [0] (by decide) rfl
    have hFc := va_free (wc := [(m0, .inr (12, [.int th, .ref lr, .ref ld, .ref o1, .int (-1), .int (-1), .int 0, .ref o2, .ref o3, .ref o4, .ref o5, .ref o6, .ref o7, .ref o8, .ref o9, .ref o10, .int 0, .int 0, .null, .int 0, .int 45, .ref t1, .ref t2, .ref t3, .ref t4, .ref t5]))]) hD hS hA [0] rfl
    refine va_calli (va_runV (As := [.int 1]) (rest := []) ⟨hx, hb, hml, hown, hq⟩ (c_isWrong1 l hst tE adK adV dC dI m0 lr ld o1 o2 o3 o4 o5 o6 o7 o8 o9 o10 t1 t2 t3 t4 t5 th H.size) (tcV 1 hq q_1488 q_12 q_1485 q_1487 qp_22 rfl rfl (by decide +kernel) ⟨Nat.le_of_ble_eq_true rfl, Nat.le_of_ble_eq_true rfl⟩) (pre.V (va_recv hK hP (ci := 12) (q0 := 0) rfl rfl) (pre.of hPc hDc hKc ham hS hFc)) rfl rfl hl.1 rfl (lv_room (Nat.le_of_ble_eq_true rfl)) dX12_seat_46 ⟨Nat.le_of_ble_eq_true rfl, Nat.le_of_ble_eq_true rfl⟩) hS (fun q _ h => hFc q h) hFc (fun r_3 u t H1 locs ht hvm hw hB hz1 hk1 hS => ?_)
    obtain ⟨hP1, hK1, hD1⟩ := hB
    rw [ht] at hP1
    have hK1 := va_K.moved hvm.symm hK1
    obtain ⟨hP, hD⟩ := va_join (wr := [(lr, .inr (14, [.int 0, .ref tE, .int 0])), (ld, .inr (14, [.int 0, .ref tE, .int 0]))]) (w1 := [(m0, .inr (12, [.int 1, .ref lr, .ref ld, .ref o1, .int (-1), .int (-1), .int 0, .ref o2, .ref o3, .ref o4, .ref o5, .ref o6, .ref o7, .ref o8, .ref o9, .ref o10, .int 0, .int 0, .null, .int 0, .int 45, .ref t1, .ref t2, .ref t3, .ref t4, .ref t5]))]) (wc := [(m0, .inr (12, [.int th, .ref lr, .ref ld, .ref o1, .int (-1), .int (-1), .int 0, .ref o2, .ref o3, .ref o4, .ref o5, .ref o6, .ref o7, .ref o8, .ref o9, .ref o10, .int 0, .int 0, .null, .int 0, .int 45, .ref t1, .ref t2, .ref t3, .ref t4, .ref t5]))]) hP hD [0] [1, 2] rfl rfl (by decide) (by decide) hk1 hFc hP1 hD1
    have hK := (hK.sub (tys' := []) [] rfl).app hK1
    generalize H1 = H at hP hS ⊢
    have hP : va_P (dC, dI) cls [(lr, .inr (14, [.int 0, .ref tE, .int 0])), (ld, .inr (14, [.int 0, .ref tE, .int 0])), (m0, .inr (12, [.int 1, .ref lr, .ref ld, .ref o1, .int (-1), .int (-1), .int 0, .ref o2, .ref o3, .ref o4, .ref o5, .ref o6, .ref o7, .ref o8, .ref o9, .ref o10, .int 0, .int 0, .null, .int 0, .int 45, .ref t1, .ref t2, .ref t3, .ref t4, .ref t5]))] H := hP
    have hD : va_D A [(lr, .inr (14, [.int 0, .ref tE, .int 0])), (ld, .inr (14, [.int 0, .ref tE, .int 0])), (m0, .inr (12, [.int 1, .ref lr, .ref ld, .ref o1, .int (-1), .int (-1), .int 0, .ref o2, .ref o3, .ref o4, .ref o5, .ref o6, .ref o7, .ref o8, .ref o9, .ref o10, .int 0, .int 0, .null, .int 0, .int 45, .ref t1, .ref t2, .ref t3, .ref t4, .ref t5]))] := hD
    have hK : va_K (dC, dI) cls [] s := hK
    refine W.widen (k := 0) (n := 0) (Nat.le_of_ble_eq_true rfl) (Nat.le_of_ble_eq_true rfl) ?_
    have hw : r_3 = 1 := hw
    subst hw
    refine lv_if_eq (tgt := 54) hx hb dX12_seat_49 (by decide) (fun c_4 => ?_) (fun c_4 => ?_)
    · exact absurd c_4 (by decide)
    · refine lv_iconst (v := 0) hx hb dX12_seat_52 (by decide) ?_
      refine W.widen (k := 0) (n := 0) (Nat.le_of_ble_eq_true rfl) (Nat.le_of_ble_eq_true rfl) ?_
      have hP9 := hP.sub (ws' := [(m0, .inr (12, [.int 1, .ref lr, .ref ld, .ref o1, .int (-1), .int (-1), .int 0, .ref o2, .ref o3, .ref o4, .ref o5, .ref o6, .ref o7, .ref o8, .ref o9, .ref o10, .int 0, .int 0, .null, .int 0, .int 45, .ref t1, .ref t2, .ref t3, .ref t4, .ref t5]))]) [2] rfl
      have hD9 := hD.sub (ws' := [(m0, .inr (12, [.int 1, .ref lr, .ref ld, .ref o1, .int (-1), .int (-1), .int 0, .ref o2, .ref o3, .ref o4, .ref o5, .ref o6, .ref o7, .ref o8, .ref o9, .ref o10, .int 0, .int 0, .null, .int 0, .int 45, .ref t1, .ref t2, .ref t3, .ref t4, .ref t5]))]) [2] (by decide) rfl
      have hK9 := hK.sub (tys' := []) [] rfl
      exact W.iret (v := 0) hx hb hr (fun t ht hW => ⟨⟨0, (), rfl, trivial, ⟨by rw [ht]; exact hP9, va_K.moved hW.alike hK9, hD9⟩⟩, hS.F ht⟩) hS.2.2 dX12_seat_53
abbrev cX12_lovers : ByteArray := prog_13_method_9_code
def yX12_lovers : MethodName := ⟨RX12, "lovers", "(II)Z"⟩
theorem dX12_lovers_0 : decode cX12_lovers 0 = .ok (.aload_n 0, 1) := by decide +kernel
theorem dX12_lovers_1 : decode cX12_lovers 1 = .ok (.aload_n 0, 1) := by decide +kernel
theorem dX12_lovers_2 : decode cX12_lovers 2 = .ok (.iload_n 1, 1) := by decide +kernel
theorem dX12_lovers_3 : decode cX12_lovers 3 = .ok (.iload_n 2, 1) := by decide +kernel
theorem dX12_lovers_4 : decode cX12_lovers 4 = .ok (.invokevirtual 140, 3) := by decide +kernel
theorem dX12_lovers_7 : decode cX12_lovers 7 = .ok (.ifCond .ne 7, 3) := by decide +kernel
theorem dX12_lovers_10 : decode cX12_lovers 10 = .ok (.iconst 1, 1) := by decide +kernel
theorem dX12_lovers_11 : decode cX12_lovers 11 = .ok (.goto 24, 3) := by decide +kernel
theorem dX12_lovers_35 : decode cX12_lovers 35 = .ok (.invokevirtual 110, 3) := by decide +kernel
theorem dX12_lovers_38 : decode cX12_lovers 38 = .ok (.ifCond .eq 5, 3) := by decide +kernel
theorem dX12_lovers_41 : decode cX12_lovers 41 = .ok (.iconst 0, 1) := by decide +kernel
theorem dX12_lovers_42 : decode cX12_lovers 42 = .ok (.ireturn, 1) := by decide +kernel
set_option maxHeartbeats 4000000 in
set_option maxRecDepth 100000 in
theorem c_M_lovers (l : Launch) (hst : l.stackTraces = false) (tE : Nat) (adK adV : Nat → Nat) (dC : Nat → ClassId) (dI : Nat → Nat → Nat) (m0 : Nat) (lr : Nat) (ld : Nat) (o1 : Nat) (o2 : Nat) (o3 : Nat) (o4 : Nat) (o5 : Nat) (o6 : Nat) (o7 : Nat) (o8 : Nat) (o9 : Nat) (o10 : Nat) (t1 : Nat) (t2 : Nat) (t3 : Nat) (t4 : Nat) (t5 : Nat) (th : Int32) (p1 : Int32) (p2 : Int32) (sz : Nat) : Met l yX12_lovers (Cond.code yX12_lovers cX12_lovers 4 (some .boolean) :: tw) ({ frames := 3, cells := 0, slots := 0, locals := 63 }) (va_Pc [.ref m0, .int p1, .int p2] (pre tE adK adV (dC, dI) [(m0, .inr (12, [.int th, .ref lr, .ref ld, .ref o1, .int (-1), .int (-1), .int 0, .ref o2, .ref o3, .ref o4, .ref o5, .ref o6, .ref o7, .ref o8, .ref o9, .ref o10, .int 0, .int 0, .null, .int 0, .int 45, .ref t1, .ref t2, .ref t3, .ref t4, .ref t5])), (lr, .inr (14, [.int 0, .ref tE, .int 0])), (ld, .inr (14, [.int 0, .ref tE, .int 0]))] [] sz)) (va_Qi (fun (r : Int32) (_ : Unit) => True) (fun (_ : Unit) (t : State) => va_P (dC, dI) cls [(m0, .inr (12, [.int 1, .ref lr, .ref ld, .ref o1, .int (-1), .int (-1), .int 0, .ref o2, .ref o3, .ref o4, .ref o5, .ref o6, .ref o7, .ref o8, .ref o9, .ref o10, .int 0, .int 0, .null, .int 0, .int 45, .ref t1, .ref t2, .ref t3, .ref t4, .ref t5]))] t.heap ∧ va_K (dC, dI) cls [] t ∧ va_D (va_A [(m0, .inr (12, [.int th, .ref lr, .ref ld, .ref o1, .int (-1), .int (-1), .int 0, .ref o2, .ref o3, .ref o4, .ref o5, .ref o6, .ref o7, .ref o8, .ref o9, .ref o10, .int 0, .int 0, .null, .int 0, .int 45, .ref t1, .ref t2, .ref t3, .ref t4, .ref t5])), (lr, .inr (14, [.int 0, .ref tE, .int 0])), (ld, .inr (14, [.int 0, .ref tE, .int 0]))] sz) [(m0, .inr (12, [.int 1, .ref lr, .ref ld, .ref o1, .int (-1), .int (-1), .int 0, .ref o2, .ref o3, .ref o4, .ref o5, .ref o6, .ref o7, .ref o8, .ref o9, .ref o10, .int 0, .int 0, .null, .int 0, .int 45, .ref t1, .ref t2, .ref t3, .ref t4, .ref t5]))]) (va_A [(m0, .inr (12, [.int th, .ref lr, .ref ld, .ref o1, .int (-1), .int (-1), .int 0, .ref o2, .ref o3, .ref o4, .ref o5, .ref o6, .ref o7, .ref o8, .ref o9, .ref o10, .int 0, .int 0, .null, .int 0, .int 45, .ref t1, .ref t2, .ref t3, .ref t4, .ref t5])), (lr, .inr (14, [.int 0, .ref tE, .int 0])), (ld, .inr (14, [.int 0, .ref tE, .int 0]))] sz)) 0 0 (va_A [(m0, .inr (12, [.int th, .ref lr, .ref ld, .ref o1, .int (-1), .int (-1), .int 0, .ref o2, .ref o3, .ref o4, .ref o5, .ref o6, .ref o7, .ref o8, .ref o9, .ref o10, .int 0, .int 0, .null, .int 0, .int 45, .ref t1, .ref t2, .ref t3, .ref t4, .ref t5])), (lr, .inr (14, [.int 0, .ref tE, .int 0])), (ld, .inr (14, [.int 0, .ref tE, .int 0]))] sz) := by
  refine Met.ofW (cc := cX12_lovers) (maxL := 4) (ret := (some .boolean)) (by decide) rfl ?_
  intro p e s m args below meth c s₁ B hml hv
  obtain ⟨rfl, hsz, hP, hK, hD0, ham⟩ := hv
  have hx := B.exec
  have hb := B.bytes
  have hr := B.returns
  have hts := atoms_spec B.pre
  have hq : ∀ w ∈ tw, w.before _ s = true := fun w h => hts w (List.mem_cons_of_mem _ h)
  have hown : s.vm.findClass RX12 = some m.cls := findClass_of_methodNamed B.named
  have hlocks := B.notSynchronized
  subst hsz
  have hD := hD0.self (sz := s.heap.size)
  generalize hAe : va_A [(m0, .inr (12, [.int th, .ref lr, .ref ld, .ref o1, .int (-1), .int (-1), .int 0, .ref o2, .ref o3, .ref o4, .ref o5, .ref o6, .ref o7, .ref o8, .ref o9, .ref o10, .int 0, .int 0, .null, .int 0, .int 45, .ref t1, .ref t2, .ref t3, .ref t4, .ref t5])), (lr, .inr (14, [.int 0, .ref tE, .int 0])), (ld, .inr (14, [.int 0, .ref tE, .int 0]))] s.heap.size = A at hD ham ⊢
  have hA : ∀ q : Nat, s.heap.size ≤ q → A q := fun q h => by rw [← hAe]; exact Or.inr h
  have hS : va_S A s.heap s.heap [] := va_S.rf
  have hP : va_P (dC, dI) cls [(m0, .inr (12, [.int th, .ref lr, .ref ld, .ref o1, .int (-1), .int (-1), .int 0, .ref o2, .ref o3, .ref o4, .ref o5, .ref o6, .ref o7, .ref o8, .ref o9, .ref o10, .int 0, .int 0, .null, .int 0, .int 45, .ref t1, .ref t2, .ref t3, .ref t4, .ref t5])), (lr, .inr (14, [.int 0, .ref tE, .int 0])), (ld, .inr (14, [.int 0, .ref tE, .int 0]))] s.heap := hP
  have hl := lv_entry ([.ref m0, .int p1, .int p2]) (n := 4) (Nat.le_of_ble_eq_true rfl)
  rw [lg_entry_eq]
  generalize (lg_sl ([.ref m0, .int p1, .int p2]) ++ List.replicate (4 - (lg_sl ([.ref m0, .int p1, .int p2])).length) Slot.unset).toArray = ls at hl ⊢
  have hl : lv_has ls 4 [(0, .ref m0), (1, .int p1), (2, .int p2)] := hl
  refine lv_aload_n hx hb dX12_lovers_0 rfl (lv_at hl 0 rfl) ?_
  refine lv_aload_n hx hb dX12_lovers_1 rfl (lv_at hl 0 rfl) ?_
  refine lv_iload_n hx hb dX12_lovers_2 rfl (lv_at hl 1 rfl) ?_
  refine lv_iload_n hx hb dX12_lovers_3 rfl (lv_at hl 2 rfl) ?_
  have hPc := hP.sub (ws' := [(m0, .inr (12, [.int th, .ref lr, .ref ld, .ref o1, .int (-1), .int (-1), .int 0, .ref o2, .ref o3, .ref o4, .ref o5, .ref o6, .ref o7, .ref o8, .ref o9, .ref o10, .int 0, .int 0, .null, .int 0, .int 45, .ref t1, .ref t2, .ref t3, .ref t4, .ref t5])), (ld, .inr (14, [.int 0, .ref tE, .int 0]))]) [0, 2] rfl
  have hKc := hK.sub (tys' := []) [] rfl
  refine va_calli (va_runV (As := [.int p1, .int p2]) (rest := [.ref m0]) ⟨hx, hb, hml, hown, hq⟩ (c_areSeats l hst tE adK adV dC dI m0 lr ld o1 o2 o3 o4 o5 o6 o7 o8 o9 o10 t1 t2 t3 t4 t5 th p1 p2 s.heap.size) (tcV 2 hq q_1650 q_12 q_1647 q_1649 qp_26 rfl rfl (by decide +kernel) ⟨Nat.le_of_ble_eq_true rfl, Nat.le_of_ble_eq_true rfl⟩) (preR.V (va_recv hK hP (ci := 12) (q0 := 0) rfl rfl) (preR.of hPc hKc ham hS hA)) rfl rfl hl.1 rfl (lv_room (Nat.le_of_ble_eq_true rfl)) dX12_lovers_4 ⟨Nat.le_of_ble_eq_true rfl, Nat.le_of_ble_eq_true rfl⟩) hS (fun q _ h => hA q (Nat.le_trans hS.1 h)) (fun q h => hA q (Nat.le_trans hS.1 h)) (fun r_1 u t H1 locs ht hvm hw hB hz1 hk1 hS => ?_)
  have hP : va_P (dC, dI) cls [(m0, .inr (12, [.int th, .ref lr, .ref ld, .ref o1, .int (-1), .int (-1), .int 0, .ref o2, .ref o3, .ref o4, .ref o5, .ref o6, .ref o7, .ref o8, .ref o9, .ref o10, .int 0, .int 0, .null, .int 0, .int 45, .ref t1, .ref t2, .ref t3, .ref t4, .ref t5])), (lr, .inr (14, [.int 0, .ref tE, .int 0])), (ld, .inr (14, [.int 0, .ref tE, .int 0]))] H1 := ro_keep hP hk1
  generalize H1 = H at hP hS ⊢
  refine W.widen (k := 0) (n := 0) (Nat.le_of_ble_eq_true rfl) (Nat.le_of_ble_eq_true rfl) ?_
  have hw : r_1 = 0 := hw
  subst hw
  refine lv_if_ne (tgt := 14) hx hb dX12_lovers_7 (by decide) (fun c_2 => ?_) (fun c_2 => ?_)
  · exact absurd c_2 (by decide)
  · refine lv_iconst (v := 1) hx hb dX12_lovers_10 (by decide) ?_
    refine lv_goto (tgt := 35) hx hb dX12_lovers_11 (by decide) ?_
    have hPc := hP.sub (ws' := [(m0, .inr (12, [.int th, .ref lr, .ref ld, .ref o1, .int (-1), .int (-1), .int 0, .ref o2, .ref o3, .ref o4, .ref o5, .ref o6, .ref o7, .ref o8, .ref o9, .ref o10, .int 0, .int 0, .null, .int 0, .int 45, .ref t1, .ref t2, .ref t3, .ref t4, .ref t5]))]) [0] rfl
    have hKc := hK.sub (tys' := []) [] rfl
    have hDc := hD.sub (ws' := [(m0, .inr (12, [.int th, .ref lr, .ref ld, .ref o1, .int (-1), .int (-1), .int 0, .ref o2, .ref o3, .ref o4, .ref o5, .ref o6, .ref o7, .ref o8, .ref o9, .ref o10, .int 0, .int 0, .null, .int 0, .int 45, .ref t1, .ref t2, .ref t3, .ref t4, .ref t5]))]) [0] (by decide) rfl
    have hFc := va_free (wc := [(m0, .inr (12, [.int th, .ref lr, .ref ld, .ref o1, .int (-1), .int (-1), .int 0, .ref o2, .ref o3, .ref o4, .ref o5, .ref o6, .ref o7, .ref o8, .ref o9, .ref o10, .int 0, .int 0, .null, .int 0, .int 45, .ref t1, .ref t2, .ref t3, .ref t4, .ref t5]))]) hD hS hA [0] rfl
    refine va_calli (va_runV (As := [.int 1]) (rest := []) ⟨hx, hb, hml, hown, hq⟩ (c_isWrong1 l hst tE adK adV dC dI m0 lr ld o1 o2 o3 o4 o5 o6 o7 o8 o9 o10 t1 t2 t3 t4 t5 th H.size) (tcV 1 hq q_1488 q_12 q_1485 q_1487 qp_22 rfl rfl (by decide +kernel) ⟨Nat.le_of_ble_eq_true rfl, Nat.le_of_ble_eq_true rfl⟩) (pre.V (va_recv hK hP (ci := 12) (q0 := 0) rfl rfl) (pre.of hPc hDc hKc ham hS hFc)) rfl rfl hl.1 rfl (lv_room (Nat.le_of_ble_eq_true rfl)) dX12_lovers_35 ⟨Nat.le_of_ble_eq_true rfl, Nat.le_of_ble_eq_true rfl⟩) hS (fun q _ h => hFc q h) hFc (fun r_3 u t H1 locs ht hvm hw hB hz1 hk1 hS => ?_)
    obtain ⟨hP1, hK1, hD1⟩ := hB
    rw [ht] at hP1
    have hK1 := va_K.moved hvm.symm hK1
    obtain ⟨hP, hD⟩ := va_join (wr := [(lr, .inr (14, [.int 0, .ref tE, .int 0])), (ld, .inr (14, [.int 0, .ref tE, .int 0]))]) (w1 := [(m0, .inr (12, [.int 1, .ref lr, .ref ld, .ref o1, .int (-1), .int (-1), .int 0, .ref o2, .ref o3, .ref o4, .ref o5, .ref o6, .ref o7, .ref o8, .ref o9, .ref o10, .int 0, .int 0, .null, .int 0, .int 45, .ref t1, .ref t2, .ref t3, .ref t4, .ref t5]))]) (wc := [(m0, .inr (12, [.int th, .ref lr, .ref ld, .ref o1, .int (-1), .int (-1), .int 0, .ref o2, .ref o3, .ref o4, .ref o5, .ref o6, .ref o7, .ref o8, .ref o9, .ref o10, .int 0, .int 0, .null, .int 0, .int 45, .ref t1, .ref t2, .ref t3, .ref t4, .ref t5]))]) hP hD [0] [1, 2] rfl rfl (by decide) (by decide) hk1 hFc hP1 hD1
    have hK := (hK.sub (tys' := []) [] rfl).app hK1
    generalize H1 = H at hP hS ⊢
    have hP : va_P (dC, dI) cls [(lr, .inr (14, [.int 0, .ref tE, .int 0])), (ld, .inr (14, [.int 0, .ref tE, .int 0])), (m0, .inr (12, [.int 1, .ref lr, .ref ld, .ref o1, .int (-1), .int (-1), .int 0, .ref o2, .ref o3, .ref o4, .ref o5, .ref o6, .ref o7, .ref o8, .ref o9, .ref o10, .int 0, .int 0, .null, .int 0, .int 45, .ref t1, .ref t2, .ref t3, .ref t4, .ref t5]))] H := hP
    have hD : va_D A [(lr, .inr (14, [.int 0, .ref tE, .int 0])), (ld, .inr (14, [.int 0, .ref tE, .int 0])), (m0, .inr (12, [.int 1, .ref lr, .ref ld, .ref o1, .int (-1), .int (-1), .int 0, .ref o2, .ref o3, .ref o4, .ref o5, .ref o6, .ref o7, .ref o8, .ref o9, .ref o10, .int 0, .int 0, .null, .int 0, .int 45, .ref t1, .ref t2, .ref t3, .ref t4, .ref t5]))] := hD
    have hK : va_K (dC, dI) cls [] s := hK
    refine W.widen (k := 0) (n := 0) (Nat.le_of_ble_eq_true rfl) (Nat.le_of_ble_eq_true rfl) ?_
    have hw : r_3 = 1 := hw
    subst hw
    refine lv_if_eq (tgt := 43) hx hb dX12_lovers_38 (by decide) (fun c_4 => ?_) (fun c_4 => ?_)
    · exact absurd c_4 (by decide)
    · refine lv_iconst (v := 0) hx hb dX12_lovers_41 (by decide) ?_
      refine W.widen (k := 0) (n := 0) (Nat.le_of_ble_eq_true rfl) (Nat.le_of_ble_eq_true rfl) ?_
      have hP9 := hP.sub (ws' := [(m0, .inr (12, [.int 1, .ref lr, .ref ld, .ref o1, .int (-1), .int (-1), .int 0, .ref o2, .ref o3, .ref o4, .ref o5, .ref o6, .ref o7, .ref o8, .ref o9, .ref o10, .int 0, .int 0, .null, .int 0, .int 45, .ref t1, .ref t2, .ref t3, .ref t4, .ref t5]))]) [2] rfl
      have hD9 := hD.sub (ws' := [(m0, .inr (12, [.int 1, .ref lr, .ref ld, .ref o1, .int (-1), .int (-1), .int 0, .ref o2, .ref o3, .ref o4, .ref o5, .ref o6, .ref o7, .ref o8, .ref o9, .ref o10, .int 0, .int 0, .null, .int 0, .int 45, .ref t1, .ref t2, .ref t3, .ref t4, .ref t5]))]) [2] (by decide) rfl
      have hK9 := hK.sub (tys' := []) [] rfl
      exact W.zret (v := 0) hx hb hr (by decide) (fun t ht hW => ⟨⟨0, (), rfl, trivial, ⟨by rw [ht]; exact hP9, va_K.moved hW.alike hK9, hD9⟩⟩, hS.F ht⟩) hS.2.2 dX12_lovers_42
abbrev cX12_heir : ByteArray := prog_13_method_10_code
def yX12_heir : MethodName := ⟨RX12, "heir", "(II)I"⟩
theorem dX12_heir_0 : decode cX12_heir 0 = .ok (.aload_n 0, 1) := by decide +kernel
theorem dX12_heir_1 : decode cX12_heir 1 = .ok (.aload_n 0, 1) := by decide +kernel
theorem dX12_heir_2 : decode cX12_heir 2 = .ok (.iload_n 1, 1) := by decide +kernel
theorem dX12_heir_3 : decode cX12_heir 3 = .ok (.iload_n 2, 1) := by decide +kernel
theorem dX12_heir_4 : decode cX12_heir 4 = .ok (.invokevirtual 140, 3) := by decide +kernel
theorem dX12_heir_7 : decode cX12_heir 7 = .ok (.ifCond .ne 7, 3) := by decide +kernel
theorem dX12_heir_10 : decode cX12_heir 10 = .ok (.iconst 1, 1) := by decide +kernel
theorem dX12_heir_11 : decode cX12_heir 11 = .ok (.goto 24, 3) := by decide +kernel
theorem dX12_heir_35 : decode cX12_heir 35 = .ok (.invokevirtual 110, 3) := by decide +kernel
theorem dX12_heir_38 : decode cX12_heir 38 = .ok (.ifCond .eq 5, 3) := by decide +kernel
theorem dX12_heir_41 : decode cX12_heir 41 = .ok (.iconst 0, 1) := by decide +kernel
theorem dX12_heir_42 : decode cX12_heir 42 = .ok (.ireturn, 1) := by decide +kernel
set_option maxHeartbeats 4000000 in
set_option maxRecDepth 100000 in
theorem c_M_heir (l : Launch) (hst : l.stackTraces = false) (tE : Nat) (adK adV : Nat → Nat) (dC : Nat → ClassId) (dI : Nat → Nat → Nat) (m0 : Nat) (lr : Nat) (ld : Nat) (o1 : Nat) (o2 : Nat) (o3 : Nat) (o4 : Nat) (o5 : Nat) (o6 : Nat) (o7 : Nat) (o8 : Nat) (o9 : Nat) (o10 : Nat) (t1 : Nat) (t2 : Nat) (t3 : Nat) (t4 : Nat) (t5 : Nat) (th : Int32) (p1 : Int32) (p2 : Int32) (sz : Nat) : Met l yX12_heir (Cond.code yX12_heir cX12_heir 4 (some .int) :: tw) ({ frames := 3, cells := 0, slots := 0, locals := 63 }) (va_Pc [.ref m0, .int p1, .int p2] (pre tE adK adV (dC, dI) [(m0, .inr (12, [.int th, .ref lr, .ref ld, .ref o1, .int (-1), .int (-1), .int 0, .ref o2, .ref o3, .ref o4, .ref o5, .ref o6, .ref o7, .ref o8, .ref o9, .ref o10, .int 0, .int 0, .null, .int 0, .int 45, .ref t1, .ref t2, .ref t3, .ref t4, .ref t5])), (lr, .inr (14, [.int 0, .ref tE, .int 0])), (ld, .inr (14, [.int 0, .ref tE, .int 0]))] [] sz)) (va_Qi (fun (r : Int32) (_ : Unit) => True) (fun (_ : Unit) (t : State) => va_P (dC, dI) cls [(m0, .inr (12, [.int 1, .ref lr, .ref ld, .ref o1, .int (-1), .int (-1), .int 0, .ref o2, .ref o3, .ref o4, .ref o5, .ref o6, .ref o7, .ref o8, .ref o9, .ref o10, .int 0, .int 0, .null, .int 0, .int 45, .ref t1, .ref t2, .ref t3, .ref t4, .ref t5]))] t.heap ∧ va_K (dC, dI) cls [] t ∧ va_D (va_A [(m0, .inr (12, [.int th, .ref lr, .ref ld, .ref o1, .int (-1), .int (-1), .int 0, .ref o2, .ref o3, .ref o4, .ref o5, .ref o6, .ref o7, .ref o8, .ref o9, .ref o10, .int 0, .int 0, .null, .int 0, .int 45, .ref t1, .ref t2, .ref t3, .ref t4, .ref t5])), (lr, .inr (14, [.int 0, .ref tE, .int 0])), (ld, .inr (14, [.int 0, .ref tE, .int 0]))] sz) [(m0, .inr (12, [.int 1, .ref lr, .ref ld, .ref o1, .int (-1), .int (-1), .int 0, .ref o2, .ref o3, .ref o4, .ref o5, .ref o6, .ref o7, .ref o8, .ref o9, .ref o10, .int 0, .int 0, .null, .int 0, .int 45, .ref t1, .ref t2, .ref t3, .ref t4, .ref t5]))]) (va_A [(m0, .inr (12, [.int th, .ref lr, .ref ld, .ref o1, .int (-1), .int (-1), .int 0, .ref o2, .ref o3, .ref o4, .ref o5, .ref o6, .ref o7, .ref o8, .ref o9, .ref o10, .int 0, .int 0, .null, .int 0, .int 45, .ref t1, .ref t2, .ref t3, .ref t4, .ref t5])), (lr, .inr (14, [.int 0, .ref tE, .int 0])), (ld, .inr (14, [.int 0, .ref tE, .int 0]))] sz)) 0 0 (va_A [(m0, .inr (12, [.int th, .ref lr, .ref ld, .ref o1, .int (-1), .int (-1), .int 0, .ref o2, .ref o3, .ref o4, .ref o5, .ref o6, .ref o7, .ref o8, .ref o9, .ref o10, .int 0, .int 0, .null, .int 0, .int 45, .ref t1, .ref t2, .ref t3, .ref t4, .ref t5])), (lr, .inr (14, [.int 0, .ref tE, .int 0])), (ld, .inr (14, [.int 0, .ref tE, .int 0]))] sz) := by
  refine Met.ofW (cc := cX12_heir) (maxL := 4) (ret := (some .int)) (by decide) rfl ?_
  intro p e s m args below meth c s₁ B hml hv
  obtain ⟨rfl, hsz, hP, hK, hD0, ham⟩ := hv
  have hx := B.exec
  have hb := B.bytes
  have hr := B.returns
  have hts := atoms_spec B.pre
  have hq : ∀ w ∈ tw, w.before _ s = true := fun w h => hts w (List.mem_cons_of_mem _ h)
  have hown : s.vm.findClass RX12 = some m.cls := findClass_of_methodNamed B.named
  have hlocks := B.notSynchronized
  subst hsz
  have hD := hD0.self (sz := s.heap.size)
  generalize hAe : va_A [(m0, .inr (12, [.int th, .ref lr, .ref ld, .ref o1, .int (-1), .int (-1), .int 0, .ref o2, .ref o3, .ref o4, .ref o5, .ref o6, .ref o7, .ref o8, .ref o9, .ref o10, .int 0, .int 0, .null, .int 0, .int 45, .ref t1, .ref t2, .ref t3, .ref t4, .ref t5])), (lr, .inr (14, [.int 0, .ref tE, .int 0])), (ld, .inr (14, [.int 0, .ref tE, .int 0]))] s.heap.size = A at hD ham ⊢
  have hA : ∀ q : Nat, s.heap.size ≤ q → A q := fun q h => by rw [← hAe]; exact Or.inr h
  have hS : va_S A s.heap s.heap [] := va_S.rf
  have hP : va_P (dC, dI) cls [(m0, .inr (12, [.int th, .ref lr, .ref ld, .ref o1, .int (-1), .int (-1), .int 0, .ref o2, .ref o3, .ref o4, .ref o5, .ref o6, .ref o7, .ref o8, .ref o9, .ref o10, .int 0, .int 0, .null, .int 0, .int 45, .ref t1, .ref t2, .ref t3, .ref t4, .ref t5])), (lr, .inr (14, [.int 0, .ref tE, .int 0])), (ld, .inr (14, [.int 0, .ref tE, .int 0]))] s.heap := hP
  have hl := lv_entry ([.ref m0, .int p1, .int p2]) (n := 4) (Nat.le_of_ble_eq_true rfl)
  rw [lg_entry_eq]
  generalize (lg_sl ([.ref m0, .int p1, .int p2]) ++ List.replicate (4 - (lg_sl ([.ref m0, .int p1, .int p2])).length) Slot.unset).toArray = ls at hl ⊢
  have hl : lv_has ls 4 [(0, .ref m0), (1, .int p1), (2, .int p2)] := hl
  refine lv_aload_n hx hb dX12_heir_0 rfl (lv_at hl 0 rfl) ?_
  refine lv_aload_n hx hb dX12_heir_1 rfl (lv_at hl 0 rfl) ?_
  refine lv_iload_n hx hb dX12_heir_2 rfl (lv_at hl 1 rfl) ?_
  refine lv_iload_n hx hb dX12_heir_3 rfl (lv_at hl 2 rfl) ?_
  have hPc := hP.sub (ws' := [(m0, .inr (12, [.int th, .ref lr, .ref ld, .ref o1, .int (-1), .int (-1), .int 0, .ref o2, .ref o3, .ref o4, .ref o5, .ref o6, .ref o7, .ref o8, .ref o9, .ref o10, .int 0, .int 0, .null, .int 0, .int 45, .ref t1, .ref t2, .ref t3, .ref t4, .ref t5])), (ld, .inr (14, [.int 0, .ref tE, .int 0]))]) [0, 2] rfl
  have hKc := hK.sub (tys' := []) [] rfl
  refine va_calli (va_runV (As := [.int p1, .int p2]) (rest := [.ref m0]) ⟨hx, hb, hml, hown, hq⟩ (c_areSeats l hst tE adK adV dC dI m0 lr ld o1 o2 o3 o4 o5 o6 o7 o8 o9 o10 t1 t2 t3 t4 t5 th p1 p2 s.heap.size) (tcV 2 hq q_1650 q_12 q_1647 q_1649 qp_26 rfl rfl (by decide +kernel) ⟨Nat.le_of_ble_eq_true rfl, Nat.le_of_ble_eq_true rfl⟩) (preR.V (va_recv hK hP (ci := 12) (q0 := 0) rfl rfl) (preR.of hPc hKc ham hS hA)) rfl rfl hl.1 rfl (lv_room (Nat.le_of_ble_eq_true rfl)) dX12_heir_4 ⟨Nat.le_of_ble_eq_true rfl, Nat.le_of_ble_eq_true rfl⟩) hS (fun q _ h => hA q (Nat.le_trans hS.1 h)) (fun q h => hA q (Nat.le_trans hS.1 h)) (fun r_1 u t H1 locs ht hvm hw hB hz1 hk1 hS => ?_)
  have hP : va_P (dC, dI) cls [(m0, .inr (12, [.int th, .ref lr, .ref ld, .ref o1, .int (-1), .int (-1), .int 0, .ref o2, .ref o3, .ref o4, .ref o5, .ref o6, .ref o7, .ref o8, .ref o9, .ref o10, .int 0, .int 0, .null, .int 0, .int 45, .ref t1, .ref t2, .ref t3, .ref t4, .ref t5])), (lr, .inr (14, [.int 0, .ref tE, .int 0])), (ld, .inr (14, [.int 0, .ref tE, .int 0]))] H1 := ro_keep hP hk1
  generalize H1 = H at hP hS ⊢
  refine W.widen (k := 0) (n := 0) (Nat.le_of_ble_eq_true rfl) (Nat.le_of_ble_eq_true rfl) ?_
  have hw : r_1 = 0 := hw
  subst hw
  refine lv_if_ne (tgt := 14) hx hb dX12_heir_7 (by decide) (fun c_2 => ?_) (fun c_2 => ?_)
  · exact absurd c_2 (by decide)
  · refine lv_iconst (v := 1) hx hb dX12_heir_10 (by decide) ?_
    refine lv_goto (tgt := 35) hx hb dX12_heir_11 (by decide) ?_
    have hPc := hP.sub (ws' := [(m0, .inr (12, [.int th, .ref lr, .ref ld, .ref o1, .int (-1), .int (-1), .int 0, .ref o2, .ref o3, .ref o4, .ref o5, .ref o6, .ref o7, .ref o8, .ref o9, .ref o10, .int 0, .int 0, .null, .int 0, .int 45, .ref t1, .ref t2, .ref t3, .ref t4, .ref t5]))]) [0] rfl
    have hKc := hK.sub (tys' := []) [] rfl
    have hDc := hD.sub (ws' := [(m0, .inr (12, [.int th, .ref lr, .ref ld, .ref o1, .int (-1), .int (-1), .int 0, .ref o2, .ref o3, .ref o4, .ref o5, .ref o6, .ref o7, .ref o8, .ref o9, .ref o10, .int 0, .int 0, .null, .int 0, .int 45, .ref t1, .ref t2, .ref t3, .ref t4, .ref t5]))]) [0] (by decide) rfl
    have hFc := va_free (wc := [(m0, .inr (12, [.int th, .ref lr, .ref ld, .ref o1, .int (-1), .int (-1), .int 0, .ref o2, .ref o3, .ref o4, .ref o5, .ref o6, .ref o7, .ref o8, .ref o9, .ref o10, .int 0, .int 0, .null, .int 0, .int 45, .ref t1, .ref t2, .ref t3, .ref t4, .ref t5]))]) hD hS hA [0] rfl
    refine va_calli (va_runV (As := [.int 1]) (rest := []) ⟨hx, hb, hml, hown, hq⟩ (c_isWrong1 l hst tE adK adV dC dI m0 lr ld o1 o2 o3 o4 o5 o6 o7 o8 o9 o10 t1 t2 t3 t4 t5 th H.size) (tcV 1 hq q_1488 q_12 q_1485 q_1487 qp_22 rfl rfl (by decide +kernel) ⟨Nat.le_of_ble_eq_true rfl, Nat.le_of_ble_eq_true rfl⟩) (pre.V (va_recv hK hP (ci := 12) (q0 := 0) rfl rfl) (pre.of hPc hDc hKc ham hS hFc)) rfl rfl hl.1 rfl (lv_room (Nat.le_of_ble_eq_true rfl)) dX12_heir_35 ⟨Nat.le_of_ble_eq_true rfl, Nat.le_of_ble_eq_true rfl⟩) hS (fun q _ h => hFc q h) hFc (fun r_3 u t H1 locs ht hvm hw hB hz1 hk1 hS => ?_)
    obtain ⟨hP1, hK1, hD1⟩ := hB
    rw [ht] at hP1
    have hK1 := va_K.moved hvm.symm hK1
    obtain ⟨hP, hD⟩ := va_join (wr := [(lr, .inr (14, [.int 0, .ref tE, .int 0])), (ld, .inr (14, [.int 0, .ref tE, .int 0]))]) (w1 := [(m0, .inr (12, [.int 1, .ref lr, .ref ld, .ref o1, .int (-1), .int (-1), .int 0, .ref o2, .ref o3, .ref o4, .ref o5, .ref o6, .ref o7, .ref o8, .ref o9, .ref o10, .int 0, .int 0, .null, .int 0, .int 45, .ref t1, .ref t2, .ref t3, .ref t4, .ref t5]))]) (wc := [(m0, .inr (12, [.int th, .ref lr, .ref ld, .ref o1, .int (-1), .int (-1), .int 0, .ref o2, .ref o3, .ref o4, .ref o5, .ref o6, .ref o7, .ref o8, .ref o9, .ref o10, .int 0, .int 0, .null, .int 0, .int 45, .ref t1, .ref t2, .ref t3, .ref t4, .ref t5]))]) hP hD [0] [1, 2] rfl rfl (by decide) (by decide) hk1 hFc hP1 hD1
    have hK := (hK.sub (tys' := []) [] rfl).app hK1
    generalize H1 = H at hP hS ⊢
    have hP : va_P (dC, dI) cls [(lr, .inr (14, [.int 0, .ref tE, .int 0])), (ld, .inr (14, [.int 0, .ref tE, .int 0])), (m0, .inr (12, [.int 1, .ref lr, .ref ld, .ref o1, .int (-1), .int (-1), .int 0, .ref o2, .ref o3, .ref o4, .ref o5, .ref o6, .ref o7, .ref o8, .ref o9, .ref o10, .int 0, .int 0, .null, .int 0, .int 45, .ref t1, .ref t2, .ref t3, .ref t4, .ref t5]))] H := hP
    have hD : va_D A [(lr, .inr (14, [.int 0, .ref tE, .int 0])), (ld, .inr (14, [.int 0, .ref tE, .int 0])), (m0, .inr (12, [.int 1, .ref lr, .ref ld, .ref o1, .int (-1), .int (-1), .int 0, .ref o2, .ref o3, .ref o4, .ref o5, .ref o6, .ref o7, .ref o8, .ref o9, .ref o10, .int 0, .int 0, .null, .int 0, .int 45, .ref t1, .ref t2, .ref t3, .ref t4, .ref t5]))] := hD
    have hK : va_K (dC, dI) cls [] s := hK
    refine W.widen (k := 0) (n := 0) (Nat.le_of_ble_eq_true rfl) (Nat.le_of_ble_eq_true rfl) ?_
    have hw : r_3 = 1 := hw
    subst hw
    refine lv_if_eq (tgt := 43) hx hb dX12_heir_38 (by decide) (fun c_4 => ?_) (fun c_4 => ?_)
    · exact absurd c_4 (by decide)
    · refine lv_iconst (v := 0) hx hb dX12_heir_41 (by decide) ?_
      refine W.widen (k := 0) (n := 0) (Nat.le_of_ble_eq_true rfl) (Nat.le_of_ble_eq_true rfl) ?_
      have hP9 := hP.sub (ws' := [(m0, .inr (12, [.int 1, .ref lr, .ref ld, .ref o1, .int (-1), .int (-1), .int 0, .ref o2, .ref o3, .ref o4, .ref o5, .ref o6, .ref o7, .ref o8, .ref o9, .ref o10, .int 0, .int 0, .null, .int 0, .int 45, .ref t1, .ref t2, .ref t3, .ref t4, .ref t5]))]) [2] rfl
      have hD9 := hD.sub (ws' := [(m0, .inr (12, [.int 1, .ref lr, .ref ld, .ref o1, .int (-1), .int (-1), .int 0, .ref o2, .ref o3, .ref o4, .ref o5, .ref o6, .ref o7, .ref o8, .ref o9, .ref o10, .int 0, .int 0, .null, .int 0, .int 45, .ref t1, .ref t2, .ref t3, .ref t4, .ref t5]))]) [2] (by decide) rfl
      have hK9 := hK.sub (tys' := []) [] rfl
      exact W.iret (v := 0) hx hb hr (fun t ht hW => ⟨⟨0, (), rfl, trivial, ⟨by rw [ht]; exact hP9, va_K.moved hW.alike hK9, hD9⟩⟩, hS.F ht⟩) hS.2.2 dX12_heir_42
abbrev cX12_mark : ByteArray := prog_13_method_15_code
def yX12_mark : MethodName := ⟨RX12, "mark", "(II)I"⟩
theorem dX12_mark_0 : decode cX12_mark 0 = .ok (.aload_n 0, 1) := by decide +kernel
theorem dX12_mark_1 : decode cX12_mark 1 = .ok (.aload_n 0, 1) := by decide +kernel
theorem dX12_mark_2 : decode cX12_mark 2 = .ok (.iload_n 1, 1) := by decide +kernel
theorem dX12_mark_3 : decode cX12_mark 3 = .ok (.iload_n 2, 1) := by decide +kernel
theorem dX12_mark_4 : decode cX12_mark 4 = .ok (.invokevirtual 140, 3) := by decide +kernel
theorem dX12_mark_7 : decode cX12_mark 7 = .ok (.ifCond .ne 7, 3) := by decide +kernel
theorem dX12_mark_10 : decode cX12_mark 10 = .ok (.iconst 1, 1) := by decide +kernel
theorem dX12_mark_11 : decode cX12_mark 11 = .ok (.goto 32, 3) := by decide +kernel
theorem dX12_mark_43 : decode cX12_mark 43 = .ok (.invokevirtual 110, 3) := by decide +kernel
theorem dX12_mark_46 : decode cX12_mark 46 = .ok (.ifCond .eq 5, 3) := by decide +kernel
theorem dX12_mark_49 : decode cX12_mark 49 = .ok (.iconst 0, 1) := by decide +kernel
theorem dX12_mark_50 : decode cX12_mark 50 = .ok (.ireturn, 1) := by decide +kernel
set_option maxHeartbeats 4000000 in
set_option maxRecDepth 100000 in
theorem c_M_mark (l : Launch) (hst : l.stackTraces = false) (tE : Nat) (adK adV : Nat → Nat) (dC : Nat → ClassId) (dI : Nat → Nat → Nat) (m0 : Nat) (lr : Nat) (ld : Nat) (o1 : Nat) (o2 : Nat) (o3 : Nat) (o4 : Nat) (o5 : Nat) (o6 : Nat) (o7 : Nat) (o8 : Nat) (o9 : Nat) (o10 : Nat) (t1 : Nat) (t2 : Nat) (t3 : Nat) (t4 : Nat) (t5 : Nat) (th : Int32) (p1 : Int32) (p2 : Int32) (sz : Nat) : Met l yX12_mark (Cond.code yX12_mark cX12_mark 4 (some .int) :: tw) ({ frames := 3, cells := 0, slots := 0, locals := 63 }) (va_Pc [.ref m0, .int p1, .int p2] (pre tE adK adV (dC, dI) [(m0, .inr (12, [.int th, .ref lr, .ref ld, .ref o1, .int (-1), .int (-1), .int 0, .ref o2, .ref o3, .ref o4, .ref o5, .ref o6, .ref o7, .ref o8, .ref o9, .ref o10, .int 0, .int 0, .null, .int 0, .int 45, .ref t1, .ref t2, .ref t3, .ref t4, .ref t5])), (lr, .inr (14, [.int 0, .ref tE, .int 0])), (ld, .inr (14, [.int 0, .ref tE, .int 0]))] [] sz)) (va_Qi (fun (r : Int32) (_ : Unit) => True) (fun (_ : Unit) (t : State) => va_P (dC, dI) cls [(m0, .inr (12, [.int 1, .ref lr, .ref ld, .ref o1, .int (-1), .int (-1), .int 0, .ref o2, .ref o3, .ref o4, .ref o5, .ref o6, .ref o7, .ref o8, .ref o9, .ref o10, .int 0, .int 0, .null, .int 0, .int 45, .ref t1, .ref t2, .ref t3, .ref t4, .ref t5]))] t.heap ∧ va_K (dC, dI) cls [] t ∧ va_D (va_A [(m0, .inr (12, [.int th, .ref lr, .ref ld, .ref o1, .int (-1), .int (-1), .int 0, .ref o2, .ref o3, .ref o4, .ref o5, .ref o6, .ref o7, .ref o8, .ref o9, .ref o10, .int 0, .int 0, .null, .int 0, .int 45, .ref t1, .ref t2, .ref t3, .ref t4, .ref t5])), (lr, .inr (14, [.int 0, .ref tE, .int 0])), (ld, .inr (14, [.int 0, .ref tE, .int 0]))] sz) [(m0, .inr (12, [.int 1, .ref lr, .ref ld, .ref o1, .int (-1), .int (-1), .int 0, .ref o2, .ref o3, .ref o4, .ref o5, .ref o6, .ref o7, .ref o8, .ref o9, .ref o10, .int 0, .int 0, .null, .int 0, .int 45, .ref t1, .ref t2, .ref t3, .ref t4, .ref t5]))]) (va_A [(m0, .inr (12, [.int th, .ref lr, .ref ld, .ref o1, .int (-1), .int (-1), .int 0, .ref o2, .ref o3, .ref o4, .ref o5, .ref o6, .ref o7, .ref o8, .ref o9, .ref o10, .int 0, .int 0, .null, .int 0, .int 45, .ref t1, .ref t2, .ref t3, .ref t4, .ref t5])), (lr, .inr (14, [.int 0, .ref tE, .int 0])), (ld, .inr (14, [.int 0, .ref tE, .int 0]))] sz)) 0 0 (va_A [(m0, .inr (12, [.int th, .ref lr, .ref ld, .ref o1, .int (-1), .int (-1), .int 0, .ref o2, .ref o3, .ref o4, .ref o5, .ref o6, .ref o7, .ref o8, .ref o9, .ref o10, .int 0, .int 0, .null, .int 0, .int 45, .ref t1, .ref t2, .ref t3, .ref t4, .ref t5])), (lr, .inr (14, [.int 0, .ref tE, .int 0])), (ld, .inr (14, [.int 0, .ref tE, .int 0]))] sz) := by
  refine Met.ofW (cc := cX12_mark) (maxL := 4) (ret := (some .int)) (by decide) rfl ?_
  intro p e s m args below meth c s₁ B hml hv
  obtain ⟨rfl, hsz, hP, hK, hD0, ham⟩ := hv
  have hx := B.exec
  have hb := B.bytes
  have hr := B.returns
  have hts := atoms_spec B.pre
  have hq : ∀ w ∈ tw, w.before _ s = true := fun w h => hts w (List.mem_cons_of_mem _ h)
  have hown : s.vm.findClass RX12 = some m.cls := findClass_of_methodNamed B.named
  have hlocks := B.notSynchronized
  subst hsz
  have hD := hD0.self (sz := s.heap.size)
  generalize hAe : va_A [(m0, .inr (12, [.int th, .ref lr, .ref ld, .ref o1, .int (-1), .int (-1), .int 0, .ref o2, .ref o3, .ref o4, .ref o5, .ref o6, .ref o7, .ref o8, .ref o9, .ref o10, .int 0, .int 0, .null, .int 0, .int 45, .ref t1, .ref t2, .ref t3, .ref t4, .ref t5])), (lr, .inr (14, [.int 0, .ref tE, .int 0])), (ld, .inr (14, [.int 0, .ref tE, .int 0]))] s.heap.size = A at hD ham ⊢
  have hA : ∀ q : Nat, s.heap.size ≤ q → A q := fun q h => by rw [← hAe]; exact Or.inr h
  have hS : va_S A s.heap s.heap [] := va_S.rf
  have hP : va_P (dC, dI) cls [(m0, .inr (12, [.int th, .ref lr, .ref ld, .ref o1, .int (-1), .int (-1), .int 0, .ref o2, .ref o3, .ref o4, .ref o5, .ref o6, .ref o7, .ref o8, .ref o9, .ref o10, .int 0, .int 0, .null, .int 0, .int 45, .ref t1, .ref t2, .ref t3, .ref t4, .ref t5])), (lr, .inr (14, [.int 0, .ref tE, .int 0])), (ld, .inr (14, [.int 0, .ref tE, .int 0]))] s.heap := hP
  have hl := lv_entry ([.ref m0, .int p1, .int p2]) (n := 4) (Nat.le_of_ble_eq_true rfl)
  rw [lg_entry_eq]
  generalize (lg_sl ([.ref m0, .int p1, .int p2]) ++ List.replicate (4 - (lg_sl ([.ref m0, .int p1, .int p2])).length) Slot.unset).toArray = ls at hl ⊢
  have hl : lv_has ls 4 [(0, .ref m0), (1, .int p1), (2, .int p2)] := hl
  refine lv_aload_n hx hb dX12_mark_0 rfl (lv_at hl 0 rfl) ?_
  refine lv_aload_n hx hb dX12_mark_1 rfl (lv_at hl 0 rfl) ?_
  refine lv_iload_n hx hb dX12_mark_2 rfl (lv_at hl 1 rfl) ?_
  refine lv_iload_n hx hb dX12_mark_3 rfl (lv_at hl 2 rfl) ?_
  have hPc := hP.sub (ws' := [(m0, .inr (12, [.int th, .ref lr, .ref ld, .ref o1, .int (-1), .int (-1), .int 0, .ref o2, .ref o3, .ref o4, .ref o5, .ref o6, .ref o7, .ref o8, .ref o9, .ref o10, .int 0, .int 0, .null, .int 0, .int 45, .ref t1, .ref t2, .ref t3, .ref t4, .ref t5])), (ld, .inr (14, [.int 0, .ref tE, .int 0]))]) [0, 2] rfl
  have hKc := hK.sub (tys' := []) [] rfl
  refine va_calli (va_runV (As := [.int p1, .int p2]) (rest := [.ref m0]) ⟨hx, hb, hml, hown, hq⟩ (c_areSeats l hst tE adK adV dC dI m0 lr ld o1 o2 o3 o4 o5 o6 o7 o8 o9 o10 t1 t2 t3 t4 t5 th p1 p2 s.heap.size) (tcV 2 hq q_1650 q_12 q_1647 q_1649 qp_26 rfl rfl (by decide +kernel) ⟨Nat.le_of_ble_eq_true rfl, Nat.le_of_ble_eq_true rfl⟩) (preR.V (va_recv hK hP (ci := 12) (q0 := 0) rfl rfl) (preR.of hPc hKc ham hS hA)) rfl rfl hl.1 rfl (lv_room (Nat.le_of_ble_eq_true rfl)) dX12_mark_4 ⟨Nat.le_of_ble_eq_true rfl, Nat.le_of_ble_eq_true rfl⟩) hS (fun q _ h => hA q (Nat.le_trans hS.1 h)) (fun q h => hA q (Nat.le_trans hS.1 h)) (fun r_1 u t H1 locs ht hvm hw hB hz1 hk1 hS => ?_)
  have hP : va_P (dC, dI) cls [(m0, .inr (12, [.int th, .ref lr, .ref ld, .ref o1, .int (-1), .int (-1), .int 0, .ref o2, .ref o3, .ref o4, .ref o5, .ref o6, .ref o7, .ref o8, .ref o9, .ref o10, .int 0, .int 0, .null, .int 0, .int 45, .ref t1, .ref t2, .ref t3, .ref t4, .ref t5])), (lr, .inr (14, [.int 0, .ref tE, .int 0])), (ld, .inr (14, [.int 0, .ref tE, .int 0]))] H1 := ro_keep hP hk1
  generalize H1 = H at hP hS ⊢
  refine W.widen (k := 0) (n := 0) (Nat.le_of_ble_eq_true rfl) (Nat.le_of_ble_eq_true rfl) ?_
  have hw : r_1 = 0 := hw
  subst hw
  refine lv_if_ne (tgt := 14) hx hb dX12_mark_7 (by decide) (fun c_2 => ?_) (fun c_2 => ?_)
  · exact absurd c_2 (by decide)
  · refine lv_iconst (v := 1) hx hb dX12_mark_10 (by decide) ?_
    refine lv_goto (tgt := 43) hx hb dX12_mark_11 (by decide) ?_
    have hPc := hP.sub (ws' := [(m0, .inr (12, [.int th, .ref lr, .ref ld, .ref o1, .int (-1), .int (-1), .int 0, .ref o2, .ref o3, .ref o4, .ref o5, .ref o6, .ref o7, .ref o8, .ref o9, .ref o10, .int 0, .int 0, .null, .int 0, .int 45, .ref t1, .ref t2, .ref t3, .ref t4, .ref t5]))]) [0] rfl
    have hKc := hK.sub (tys' := []) [] rfl
    have hDc := hD.sub (ws' := [(m0, .inr (12, [.int th, .ref lr, .ref ld, .ref o1, .int (-1), .int (-1), .int 0, .ref o2, .ref o3, .ref o4, .ref o5, .ref o6, .ref o7, .ref o8, .ref o9, .ref o10, .int 0, .int 0, .null, .int 0, .int 45, .ref t1, .ref t2, .ref t3, .ref t4, .ref t5]))]) [0] (by decide) rfl
    have hFc := va_free (wc := [(m0, .inr (12, [.int th, .ref lr, .ref ld, .ref o1, .int (-1), .int (-1), .int 0, .ref o2, .ref o3, .ref o4, .ref o5, .ref o6, .ref o7, .ref o8, .ref o9, .ref o10, .int 0, .int 0, .null, .int 0, .int 45, .ref t1, .ref t2, .ref t3, .ref t4, .ref t5]))]) hD hS hA [0] rfl
    refine va_calli (va_runV (As := [.int 1]) (rest := []) ⟨hx, hb, hml, hown, hq⟩ (c_isWrong1 l hst tE adK adV dC dI m0 lr ld o1 o2 o3 o4 o5 o6 o7 o8 o9 o10 t1 t2 t3 t4 t5 th H.size) (tcV 1 hq q_1488 q_12 q_1485 q_1487 qp_22 rfl rfl (by decide +kernel) ⟨Nat.le_of_ble_eq_true rfl, Nat.le_of_ble_eq_true rfl⟩) (pre.V (va_recv hK hP (ci := 12) (q0 := 0) rfl rfl) (pre.of hPc hDc hKc ham hS hFc)) rfl rfl hl.1 rfl (lv_room (Nat.le_of_ble_eq_true rfl)) dX12_mark_43 ⟨Nat.le_of_ble_eq_true rfl, Nat.le_of_ble_eq_true rfl⟩) hS (fun q _ h => hFc q h) hFc (fun r_3 u t H1 locs ht hvm hw hB hz1 hk1 hS => ?_)
    obtain ⟨hP1, hK1, hD1⟩ := hB
    rw [ht] at hP1
    have hK1 := va_K.moved hvm.symm hK1
    obtain ⟨hP, hD⟩ := va_join (wr := [(lr, .inr (14, [.int 0, .ref tE, .int 0])), (ld, .inr (14, [.int 0, .ref tE, .int 0]))]) (w1 := [(m0, .inr (12, [.int 1, .ref lr, .ref ld, .ref o1, .int (-1), .int (-1), .int 0, .ref o2, .ref o3, .ref o4, .ref o5, .ref o6, .ref o7, .ref o8, .ref o9, .ref o10, .int 0, .int 0, .null, .int 0, .int 45, .ref t1, .ref t2, .ref t3, .ref t4, .ref t5]))]) (wc := [(m0, .inr (12, [.int th, .ref lr, .ref ld, .ref o1, .int (-1), .int (-1), .int 0, .ref o2, .ref o3, .ref o4, .ref o5, .ref o6, .ref o7, .ref o8, .ref o9, .ref o10, .int 0, .int 0, .null, .int 0, .int 45, .ref t1, .ref t2, .ref t3, .ref t4, .ref t5]))]) hP hD [0] [1, 2] rfl rfl (by decide) (by decide) hk1 hFc hP1 hD1
    have hK := (hK.sub (tys' := []) [] rfl).app hK1
    generalize H1 = H at hP hS ⊢
    have hP : va_P (dC, dI) cls [(lr, .inr (14, [.int 0, .ref tE, .int 0])), (ld, .inr (14, [.int 0, .ref tE, .int 0])), (m0, .inr (12, [.int 1, .ref lr, .ref ld, .ref o1, .int (-1), .int (-1), .int 0, .ref o2, .ref o3, .ref o4, .ref o5, .ref o6, .ref o7, .ref o8, .ref o9, .ref o10, .int 0, .int 0, .null, .int 0, .int 45, .ref t1, .ref t2, .ref t3, .ref t4, .ref t5]))] H := hP
    have hD : va_D A [(lr, .inr (14, [.int 0, .ref tE, .int 0])), (ld, .inr (14, [.int 0, .ref tE, .int 0])), (m0, .inr (12, [.int 1, .ref lr, .ref ld, .ref o1, .int (-1), .int (-1), .int 0, .ref o2, .ref o3, .ref o4, .ref o5, .ref o6, .ref o7, .ref o8, .ref o9, .ref o10, .int 0, .int 0, .null, .int 0, .int 45, .ref t1, .ref t2, .ref t3, .ref t4, .ref t5]))] := hD
    have hK : va_K (dC, dI) cls [] s := hK
    refine W.widen (k := 0) (n := 0) (Nat.le_of_ble_eq_true rfl) (Nat.le_of_ble_eq_true rfl) ?_
    have hw : r_3 = 1 := hw
    subst hw
    refine lv_if_eq (tgt := 51) hx hb dX12_mark_46 (by decide) (fun c_4 => ?_) (fun c_4 => ?_)
    · exact absurd c_4 (by decide)
    · refine lv_iconst (v := 0) hx hb dX12_mark_49 (by decide) ?_
      refine W.widen (k := 0) (n := 0) (Nat.le_of_ble_eq_true rfl) (Nat.le_of_ble_eq_true rfl) ?_
      have hP9 := hP.sub (ws' := [(m0, .inr (12, [.int 1, .ref lr, .ref ld, .ref o1, .int (-1), .int (-1), .int 0, .ref o2, .ref o3, .ref o4, .ref o5, .ref o6, .ref o7, .ref o8, .ref o9, .ref o10, .int 0, .int 0, .null, .int 0, .int 45, .ref t1, .ref t2, .ref t3, .ref t4, .ref t5]))]) [2] rfl
      have hD9 := hD.sub (ws' := [(m0, .inr (12, [.int 1, .ref lr, .ref ld, .ref o1, .int (-1), .int (-1), .int 0, .ref o2, .ref o3, .ref o4, .ref o5, .ref o6, .ref o7, .ref o8, .ref o9, .ref o10, .int 0, .int 0, .null, .int 0, .int 45, .ref t1, .ref t2, .ref t3, .ref t4, .ref t5]))]) [2] (by decide) rfl
      have hK9 := hK.sub (tys' := []) [] rfl
      exact W.iret (v := 0) hx hb hr (fun t ht hW => ⟨⟨0, (), rfl, trivial, ⟨by rw [ht]; exact hP9, va_K.moved hW.alike hK9, hD9⟩⟩, hS.F ht⟩) hS.2.2 dX12_mark_50
abbrev cX12_begin : ByteArray := prog_13_method_16_code
def yX12_begin : MethodName := ⟨RX12, "begin", "()I"⟩
theorem dX12_begin_0 : decode cX12_begin 0 = .ok (.aload_n 0, 1) := by decide +kernel
theorem dX12_begin_1 : decode cX12_begin 1 = .ok (.aload_n 0, 1) := by decide +kernel
theorem dX12_begin_2 : decode cX12_begin 2 = .ok (.getfield 106, 3) := by decide +kernel
theorem dX12_begin_5 : decode cX12_begin 5 = .ok (.ifCond .eq 7, 3) := by decide +kernel
theorem dX12_begin_12 : decode cX12_begin 12 = .ok (.aload_n 0, 1) := by decide +kernel
theorem dX12_begin_13 : decode cX12_begin 13 = .ok (.getfield 26, 3) := by decide +kernel
theorem dX12_begin_16 : decode cX12_begin 16 = .ok (.invokeinterface 7 1, 5) := by decide +kernel
theorem dX12_begin_21 : decode cX12_begin 21 = .ok (.iconst 3, 1) := by decide +kernel
theorem dX12_begin_22 : decode cX12_begin 22 = .ok (.if_icmp .ge 7, 3) := by decide +kernel
theorem dX12_begin_25 : decode cX12_begin 25 = .ok (.iconst 2, 1) := by decide +kernel
theorem dX12_begin_26 : decode cX12_begin 26 = .ok (.goto 4, 3) := by decide +kernel
theorem dX12_begin_30 : decode cX12_begin 30 = .ok (.invokevirtual 110, 3) := by decide +kernel
theorem dX12_begin_33 : decode cX12_begin 33 = .ok (.ifCond .eq 5, 3) := by decide +kernel
theorem dX12_begin_36 : decode cX12_begin 36 = .ok (.iconst 0, 1) := by decide +kernel
theorem dX12_begin_37 : decode cX12_begin 37 = .ok (.ireturn, 1) := by decide +kernel
set_option maxHeartbeats 4000000 in
set_option maxRecDepth 100000 in
theorem c_M_begin (l : Launch) (hst : l.stackTraces = false) (tE : Nat) (adK adV : Nat → Nat) (dC : Nat → ClassId) (dI : Nat → Nat → Nat) (m0 : Nat) (lr : Nat) (ld : Nat) (o1 : Nat) (o2 : Nat) (o3 : Nat) (o4 : Nat) (o5 : Nat) (o6 : Nat) (o7 : Nat) (o8 : Nat) (o9 : Nat) (o10 : Nat) (t1 : Nat) (t2 : Nat) (t3 : Nat) (t4 : Nat) (t5 : Nat) (th : Int32) (sz : Nat) : Met l yX12_begin (Cond.code yX12_begin cX12_begin 1 (some .int) :: tw) ({ frames := 1, cells := 0, slots := 0, locals := 21 }) (va_Pc [.ref m0] (pre tE adK adV (dC, dI) [(m0, .inr (12, [.int th, .ref lr, .ref ld, .ref o1, .int (-1), .int (-1), .int 0, .ref o2, .ref o3, .ref o4, .ref o5, .ref o6, .ref o7, .ref o8, .ref o9, .ref o10, .int 0, .int 0, .null, .int 0, .int 45, .ref t1, .ref t2, .ref t3, .ref t4, .ref t5])), (lr, .inr (14, [.int 0, .ref tE, .int 0])), (ld, .inr (14, [.int 0, .ref tE, .int 0]))] [] sz)) (va_Qi (fun (r : Int32) (_ : Unit) => True) (fun (_ : Unit) (t : State) => va_P (dC, dI) cls [(m0, .inr (12, [.int 2, .ref lr, .ref ld, .ref o1, .int (-1), .int (-1), .int 0, .ref o2, .ref o3, .ref o4, .ref o5, .ref o6, .ref o7, .ref o8, .ref o9, .ref o10, .int 0, .int 0, .null, .int 0, .int 45, .ref t1, .ref t2, .ref t3, .ref t4, .ref t5]))] t.heap ∧ va_K (dC, dI) cls [] t ∧ va_D (va_A [(m0, .inr (12, [.int th, .ref lr, .ref ld, .ref o1, .int (-1), .int (-1), .int 0, .ref o2, .ref o3, .ref o4, .ref o5, .ref o6, .ref o7, .ref o8, .ref o9, .ref o10, .int 0, .int 0, .null, .int 0, .int 45, .ref t1, .ref t2, .ref t3, .ref t4, .ref t5])), (lr, .inr (14, [.int 0, .ref tE, .int 0])), (ld, .inr (14, [.int 0, .ref tE, .int 0]))] sz) [(m0, .inr (12, [.int 2, .ref lr, .ref ld, .ref o1, .int (-1), .int (-1), .int 0, .ref o2, .ref o3, .ref o4, .ref o5, .ref o6, .ref o7, .ref o8, .ref o9, .ref o10, .int 0, .int 0, .null, .int 0, .int 45, .ref t1, .ref t2, .ref t3, .ref t4, .ref t5]))]) (va_A [(m0, .inr (12, [.int th, .ref lr, .ref ld, .ref o1, .int (-1), .int (-1), .int 0, .ref o2, .ref o3, .ref o4, .ref o5, .ref o6, .ref o7, .ref o8, .ref o9, .ref o10, .int 0, .int 0, .null, .int 0, .int 45, .ref t1, .ref t2, .ref t3, .ref t4, .ref t5])), (lr, .inr (14, [.int 0, .ref tE, .int 0])), (ld, .inr (14, [.int 0, .ref tE, .int 0]))] sz)) 0 0 (va_A [(m0, .inr (12, [.int th, .ref lr, .ref ld, .ref o1, .int (-1), .int (-1), .int 0, .ref o2, .ref o3, .ref o4, .ref o5, .ref o6, .ref o7, .ref o8, .ref o9, .ref o10, .int 0, .int 0, .null, .int 0, .int 45, .ref t1, .ref t2, .ref t3, .ref t4, .ref t5])), (lr, .inr (14, [.int 0, .ref tE, .int 0])), (ld, .inr (14, [.int 0, .ref tE, .int 0]))] sz) := by
  refine Met.ofW (cc := cX12_begin) (maxL := 1) (ret := (some .int)) (by decide) rfl ?_
  intro p e s m args below meth c s₁ B hml hv
  obtain ⟨rfl, hsz, hP, hK, hD0, ham⟩ := hv
  have hx := B.exec
  have hb := B.bytes
  have hr := B.returns
  have hts := atoms_spec B.pre
  have hq : ∀ w ∈ tw, w.before _ s = true := fun w h => hts w (List.mem_cons_of_mem _ h)
  have hown : s.vm.findClass RX12 = some m.cls := findClass_of_methodNamed B.named
  have hlocks := B.notSynchronized
  subst hsz
  have hD := hD0.self (sz := s.heap.size)
  generalize hAe : va_A [(m0, .inr (12, [.int th, .ref lr, .ref ld, .ref o1, .int (-1), .int (-1), .int 0, .ref o2, .ref o3, .ref o4, .ref o5, .ref o6, .ref o7, .ref o8, .ref o9, .ref o10, .int 0, .int 0, .null, .int 0, .int 45, .ref t1, .ref t2, .ref t3, .ref t4, .ref t5])), (lr, .inr (14, [.int 0, .ref tE, .int 0])), (ld, .inr (14, [.int 0, .ref tE, .int 0]))] s.heap.size = A at hD ham ⊢
  have hA : ∀ q : Nat, s.heap.size ≤ q → A q := fun q h => by rw [← hAe]; exact Or.inr h
  have hS : va_S A s.heap s.heap [] := va_S.rf
  have hP : va_P (dC, dI) cls [(m0, .inr (12, [.int th, .ref lr, .ref ld, .ref o1, .int (-1), .int (-1), .int 0, .ref o2, .ref o3, .ref o4, .ref o5, .ref o6, .ref o7, .ref o8, .ref o9, .ref o10, .int 0, .int 0, .null, .int 0, .int 45, .ref t1, .ref t2, .ref t3, .ref t4, .ref t5])), (lr, .inr (14, [.int 0, .ref tE, .int 0])), (ld, .inr (14, [.int 0, .ref tE, .int 0]))] s.heap := hP
  have hl := lv_entry ([.ref m0]) (n := 1) (Nat.le_of_ble_eq_true rfl)
  rw [lg_entry_eq]
  generalize (lg_sl ([.ref m0]) ++ List.replicate (1 - (lg_sl ([.ref m0])).length) Slot.unset).toArray = ls at hl ⊢
  have hl : lv_has ls 1 [(0, .ref m0)] := hl
  refine lv_aload_n hx hb dX12_begin_0 rfl (lv_at hl 0 rfl) ?_
  refine lv_aload_n hx hb dX12_begin_1 rfl (lv_at hl 0 rfl) ?_
  refine va_get (D := (dC, dI)) (ci := 12) (v := .int 0) (C := RX12) (T := TX12) (N := 26) hx hb hq i_X12 hown hK hP 0 rfl rfl 6 (by decide) (hq _ q_1310) (fun _ h9 => h9) rfl dX12_begin_2 ?_
  refine lv_if_eq (tgt := 12) hx hb dX12_begin_5 (by decide) (fun c_1 => ?_) (fun c_1 => ?_)
  · refine lv_aload_n hx hb dX12_begin_12 rfl (lv_at hl 0 rfl) ?_
    refine va_get (D := (dC, dI)) (ci := 12) (v := .ref ld) (C := RX12) (T := TX12) (N := 26) hx hb hq i_X12 hown hK hP 0 rfl rfl 2 (by decide) (hq _ q_1306) (fun _ h9 => h9) rfl dX12_begin_13 ?_
    have hPc := hP.sub (ws' := [(ld, .inr (14, [.int 0, .ref tE, .int 0]))]) [2] rfl
    have hKc := hK.sub (tys' := []) [] rfl
    refine va_callFi (va_runF (hK.1 14 _ rfl).2 (As := []) (rest := [.ref m0]) ⟨hx, hb, hml, hown, hq⟩ (c_size0 l hst tE adK adV dC dI ld s.heap.size) (tcF 0 hq q_1484 q_15 q_1476 q_1482 q_1480 q_1478 q_1477 q_1483 q_1481 q_1479 rfl rfl (by decide +kernel) ⟨Nat.le_of_ble_eq_true rfl, Nat.le_of_ble_eq_true rfl⟩) (preR.V (va_recv hK hP (ci := 14) (q0 := 2) rfl rfl) (preR.of hPc hKc ham hS hA)) rfl rfl hl.1 rfl (lv_room (Nat.le_of_ble_eq_true rfl)) dX12_begin_16 ⟨Nat.le_of_ble_eq_true rfl, Nat.le_of_ble_eq_true rfl⟩) hS (fun q _ h => hA q (Nat.le_trans hS.1 h)) (fun q h => hA q (Nat.le_trans hS.1 h)) (fun r_2 u t H1 locs ht hvm hw hB hz1 hk1 hS => ?_)
    have hP : va_P (dC, dI) cls [(m0, .inr (12, [.int th, .ref lr, .ref ld, .ref o1, .int (-1), .int (-1), .int 0, .ref o2, .ref o3, .ref o4, .ref o5, .ref o6, .ref o7, .ref o8, .ref o9, .ref o10, .int 0, .int 0, .null, .int 0, .int 45, .ref t1, .ref t2, .ref t3, .ref t4, .ref t5])), (lr, .inr (14, [.int 0, .ref tE, .int 0])), (ld, .inr (14, [.int 0, .ref tE, .int 0]))] H1 := ro_keep hP hk1
    generalize H1 = H at hP hS ⊢
    refine W.widen (k := 0) (n := 0) (Nat.le_of_ble_eq_true rfl) (Nat.le_of_ble_eq_true rfl) ?_
    have hw : r_2 = 0 := hw
    subst hw
    refine lv_iconst (v := 3) hx hb dX12_begin_21 (by decide) ?_
    refine lv_icmp_ge (tgt := 29) hx hb dX12_begin_22 (by decide) (fun c_3 => ?_) (fun c_3 => ?_)
    · exact absurd c_3 (by decide)
    · refine lv_iconst (v := 2) hx hb dX12_begin_25 (by decide) ?_
      refine lv_goto (tgt := 30) hx hb dX12_begin_26 (by decide) ?_
      have hPc := hP.sub (ws' := [(m0, .inr (12, [.int th, .ref lr, .ref ld, .ref o1, .int (-1), .int (-1), .int 0, .ref o2, .ref o3, .ref o4, .ref o5, .ref o6, .ref o7, .ref o8, .ref o9, .ref o10, .int 0, .int 0, .null, .int 0, .int 45, .ref t1, .ref t2, .ref t3, .ref t4, .ref t5]))]) [0] rfl
      have hKc := hK.sub (tys' := []) [] rfl
      have hDc := hD.sub (ws' := [(m0, .inr (12, [.int th, .ref lr, .ref ld, .ref o1, .int (-1), .int (-1), .int 0, .ref o2, .ref o3, .ref o4, .ref o5, .ref o6, .ref o7, .ref o8, .ref o9, .ref o10, .int 0, .int 0, .null, .int 0, .int 45, .ref t1, .ref t2, .ref t3, .ref t4, .ref t5]))]) [0] (by decide) rfl
      have hFc := va_free (wc := [(m0, .inr (12, [.int th, .ref lr, .ref ld, .ref o1, .int (-1), .int (-1), .int 0, .ref o2, .ref o3, .ref o4, .ref o5, .ref o6, .ref o7, .ref o8, .ref o9, .ref o10, .int 0, .int 0, .null, .int 0, .int 45, .ref t1, .ref t2, .ref t3, .ref t4, .ref t5]))]) hD hS hA [0] rfl
      refine va_calli (va_runV (As := [.int 2]) (rest := []) ⟨hx, hb, hml, hown, hq⟩ (c_isWrong2 l hst tE adK adV dC dI m0 lr ld o1 o2 o3 o4 o5 o6 o7 o8 o9 o10 t1 t2 t3 t4 t5 th H.size) (tcV 1 hq q_1488 q_12 q_1485 q_1487 qp_22 rfl rfl (by decide +kernel) ⟨Nat.le_of_ble_eq_true rfl, Nat.le_of_ble_eq_true rfl⟩) (pre.V (va_recv hK hP (ci := 12) (q0 := 0) rfl rfl) (pre.of hPc hDc hKc ham hS hFc)) rfl rfl hl.1 rfl (lv_room (Nat.le_of_ble_eq_true rfl)) dX12_begin_30 ⟨Nat.le_of_ble_eq_true rfl, Nat.le_of_ble_eq_true rfl⟩) hS (fun q _ h => hFc q h) hFc (fun r_4 u t H1 locs ht hvm hw hB hz1 hk1 hS => ?_)
      obtain ⟨hP1, hK1, hD1⟩ := hB
      rw [ht] at hP1
      have hK1 := va_K.moved hvm.symm hK1
      obtain ⟨hP, hD⟩ := va_join (wr := [(lr, .inr (14, [.int 0, .ref tE, .int 0])), (ld, .inr (14, [.int 0, .ref tE, .int 0]))]) (w1 := [(m0, .inr (12, [.int 2, .ref lr, .ref ld, .ref o1, .int (-1), .int (-1), .int 0, .ref o2, .ref o3, .ref o4, .ref o5, .ref o6, .ref o7, .ref o8, .ref o9, .ref o10, .int 0, .int 0, .null, .int 0, .int 45, .ref t1, .ref t2, .ref t3, .ref t4, .ref t5]))]) (wc := [(m0, .inr (12, [.int th, .ref lr, .ref ld, .ref o1, .int (-1), .int (-1), .int 0, .ref o2, .ref o3, .ref o4, .ref o5, .ref o6, .ref o7, .ref o8, .ref o9, .ref o10, .int 0, .int 0, .null, .int 0, .int 45, .ref t1, .ref t2, .ref t3, .ref t4, .ref t5]))]) hP hD [0] [1, 2] rfl rfl (by decide) (by decide) hk1 hFc hP1 hD1
      have hK := (hK.sub (tys' := []) [] rfl).app hK1
      generalize H1 = H at hP hS ⊢
      have hP : va_P (dC, dI) cls [(lr, .inr (14, [.int 0, .ref tE, .int 0])), (ld, .inr (14, [.int 0, .ref tE, .int 0])), (m0, .inr (12, [.int 2, .ref lr, .ref ld, .ref o1, .int (-1), .int (-1), .int 0, .ref o2, .ref o3, .ref o4, .ref o5, .ref o6, .ref o7, .ref o8, .ref o9, .ref o10, .int 0, .int 0, .null, .int 0, .int 45, .ref t1, .ref t2, .ref t3, .ref t4, .ref t5]))] H := hP
      have hD : va_D A [(lr, .inr (14, [.int 0, .ref tE, .int 0])), (ld, .inr (14, [.int 0, .ref tE, .int 0])), (m0, .inr (12, [.int 2, .ref lr, .ref ld, .ref o1, .int (-1), .int (-1), .int 0, .ref o2, .ref o3, .ref o4, .ref o5, .ref o6, .ref o7, .ref o8, .ref o9, .ref o10, .int 0, .int 0, .null, .int 0, .int 45, .ref t1, .ref t2, .ref t3, .ref t4, .ref t5]))] := hD
      have hK : va_K (dC, dI) cls [] s := hK
      refine W.widen (k := 0) (n := 0) (Nat.le_of_ble_eq_true rfl) (Nat.le_of_ble_eq_true rfl) ?_
      have hw : r_4 = 1 := hw
      subst hw
      refine lv_if_eq (tgt := 38) hx hb dX12_begin_33 (by decide) (fun c_5 => ?_) (fun c_5 => ?_)
      · exact absurd c_5 (by decide)
      · refine lv_iconst (v := 0) hx hb dX12_begin_36 (by decide) ?_
        refine W.widen (k := 0) (n := 0) (Nat.le_of_ble_eq_true rfl) (Nat.le_of_ble_eq_true rfl) ?_
        have hP9 := hP.sub (ws' := [(m0, .inr (12, [.int 2, .ref lr, .ref ld, .ref o1, .int (-1), .int (-1), .int 0, .ref o2, .ref o3, .ref o4, .ref o5, .ref o6, .ref o7, .ref o8, .ref o9, .ref o10, .int 0, .int 0, .null, .int 0, .int 45, .ref t1, .ref t2, .ref t3, .ref t4, .ref t5]))]) [2] rfl
        have hD9 := hD.sub (ws' := [(m0, .inr (12, [.int 2, .ref lr, .ref ld, .ref o1, .int (-1), .int (-1), .int 0, .ref o2, .ref o3, .ref o4, .ref o5, .ref o6, .ref o7, .ref o8, .ref o9, .ref o10, .int 0, .int 0, .null, .int 0, .int 45, .ref t1, .ref t2, .ref t3, .ref t4, .ref t5]))]) [2] (by decide) rfl
        have hK9 := hK.sub (tys' := []) [] rfl
        exact W.iret (v := 0) hx hb hr (fun t ht hW => ⟨⟨0, (), rfl, trivial, ⟨by rw [ht]; exact hP9, va_K.moved hW.alike hK9, hD9⟩⟩, hS.F ht⟩) hS.2.2 dX12_begin_37
  · exact absurd c_1 (by decide)
abbrev cX12_act : ByteArray := prog_13_method_17_code
def yX12_act : MethodName := ⟨RX12, "act", "(II)Z"⟩
theorem dX12_act_0 : decode cX12_act 0 = .ok (.aload_n 0, 1) := by decide +kernel
theorem dX12_act_1 : decode cX12_act 1 = .ok (.aload_n 0, 1) := by decide +kernel
theorem dX12_act_2 : decode cX12_act 2 = .ok (.iload_n 1, 1) := by decide +kernel
theorem dX12_act_3 : decode cX12_act 3 = .ok (.iload_n 2, 1) := by decide +kernel
theorem dX12_act_4 : decode cX12_act 4 = .ok (.invokevirtual 140, 3) := by decide +kernel
theorem dX12_act_7 : decode cX12_act 7 = .ok (.ifCond .ne 7, 3) := by decide +kernel
theorem dX12_act_10 : decode cX12_act 10 = .ok (.iconst 1, 1) := by decide +kernel
theorem dX12_act_11 : decode cX12_act 11 = .ok (.goto 15, 3) := by decide +kernel
theorem dX12_act_26 : decode cX12_act 26 = .ok (.invokevirtual 110, 3) := by decide +kernel
theorem dX12_act_29 : decode cX12_act 29 = .ok (.ifCond .eq 5, 3) := by decide +kernel
theorem dX12_act_32 : decode cX12_act 32 = .ok (.iconst 0, 1) := by decide +kernel
theorem dX12_act_33 : decode cX12_act 33 = .ok (.ireturn, 1) := by decide +kernel
set_option maxHeartbeats 4000000 in
set_option maxRecDepth 100000 in
theorem c_M_act (l : Launch) (hst : l.stackTraces = false) (tE : Nat) (adK adV : Nat → Nat) (dC : Nat → ClassId) (dI : Nat → Nat → Nat) (m0 : Nat) (lr : Nat) (ld : Nat) (o1 : Nat) (o2 : Nat) (o3 : Nat) (o4 : Nat) (o5 : Nat) (o6 : Nat) (o7 : Nat) (o8 : Nat) (o9 : Nat) (o10 : Nat) (t1 : Nat) (t2 : Nat) (t3 : Nat) (t4 : Nat) (t5 : Nat) (th : Int32) (p1 : Int32) (p2 : Int32) (sz : Nat) : Met l yX12_act (Cond.code yX12_act cX12_act 5 (some .boolean) :: tw) ({ frames := 3, cells := 0, slots := 0, locals := 63 }) (va_Pc [.ref m0, .int p1, .int p2] (pre tE adK adV (dC, dI) [(m0, .inr (12, [.int th, .ref lr, .ref ld, .ref o1, .int (-1), .int (-1), .int 0, .ref o2, .ref o3, .ref o4, .ref o5, .ref o6, .ref o7, .ref o8, .ref o9, .ref o10, .int 0, .int 0, .null, .int 0, .int 45, .ref t1, .ref t2, .ref t3, .ref t4, .ref t5])), (lr, .inr (14, [.int 0, .ref tE, .int 0])), (ld, .inr (14, [.int 0, .ref tE, .int 0]))] [] sz)) (va_Qi (fun (r : Int32) (_ : Unit) => True) (fun (_ : Unit) (t : State) => va_P (dC, dI) cls [(m0, .inr (12, [.int 1, .ref lr, .ref ld, .ref o1, .int (-1), .int (-1), .int 0, .ref o2, .ref o3, .ref o4, .ref o5, .ref o6, .ref o7, .ref o8, .ref o9, .ref o10, .int 0, .int 0, .null, .int 0, .int 45, .ref t1, .ref t2, .ref t3, .ref t4, .ref t5]))] t.heap ∧ va_K (dC, dI) cls [] t ∧ va_D (va_A [(m0, .inr (12, [.int th, .ref lr, .ref ld, .ref o1, .int (-1), .int (-1), .int 0, .ref o2, .ref o3, .ref o4, .ref o5, .ref o6, .ref o7, .ref o8, .ref o9, .ref o10, .int 0, .int 0, .null, .int 0, .int 45, .ref t1, .ref t2, .ref t3, .ref t4, .ref t5])), (lr, .inr (14, [.int 0, .ref tE, .int 0])), (ld, .inr (14, [.int 0, .ref tE, .int 0]))] sz) [(m0, .inr (12, [.int 1, .ref lr, .ref ld, .ref o1, .int (-1), .int (-1), .int 0, .ref o2, .ref o3, .ref o4, .ref o5, .ref o6, .ref o7, .ref o8, .ref o9, .ref o10, .int 0, .int 0, .null, .int 0, .int 45, .ref t1, .ref t2, .ref t3, .ref t4, .ref t5]))]) (va_A [(m0, .inr (12, [.int th, .ref lr, .ref ld, .ref o1, .int (-1), .int (-1), .int 0, .ref o2, .ref o3, .ref o4, .ref o5, .ref o6, .ref o7, .ref o8, .ref o9, .ref o10, .int 0, .int 0, .null, .int 0, .int 45, .ref t1, .ref t2, .ref t3, .ref t4, .ref t5])), (lr, .inr (14, [.int 0, .ref tE, .int 0])), (ld, .inr (14, [.int 0, .ref tE, .int 0]))] sz)) 0 0 (va_A [(m0, .inr (12, [.int th, .ref lr, .ref ld, .ref o1, .int (-1), .int (-1), .int 0, .ref o2, .ref o3, .ref o4, .ref o5, .ref o6, .ref o7, .ref o8, .ref o9, .ref o10, .int 0, .int 0, .null, .int 0, .int 45, .ref t1, .ref t2, .ref t3, .ref t4, .ref t5])), (lr, .inr (14, [.int 0, .ref tE, .int 0])), (ld, .inr (14, [.int 0, .ref tE, .int 0]))] sz) := by
  refine Met.ofW (cc := cX12_act) (maxL := 5) (ret := (some .boolean)) (by decide) rfl ?_
  intro p e s m args below meth c s₁ B hml hv
  obtain ⟨rfl, hsz, hP, hK, hD0, ham⟩ := hv
  have hx := B.exec
  have hb := B.bytes
  have hr := B.returns
  have hts := atoms_spec B.pre
  have hq : ∀ w ∈ tw, w.before _ s = true := fun w h => hts w (List.mem_cons_of_mem _ h)
  have hown : s.vm.findClass RX12 = some m.cls := findClass_of_methodNamed B.named
  have hlocks := B.notSynchronized
  subst hsz
  have hD := hD0.self (sz := s.heap.size)
  generalize hAe : va_A [(m0, .inr (12, [.int th, .ref lr, .ref ld, .ref o1, .int (-1), .int (-1), .int 0, .ref o2, .ref o3, .ref o4, .ref o5, .ref o6, .ref o7, .ref o8, .ref o9, .ref o10, .int 0, .int 0, .null, .int 0, .int 45, .ref t1, .ref t2, .ref t3, .ref t4, .ref t5])), (lr, .inr (14, [.int 0, .ref tE, .int 0])), (ld, .inr (14, [.int 0, .ref tE, .int 0]))] s.heap.size = A at hD ham ⊢
  have hA : ∀ q : Nat, s.heap.size ≤ q → A q := fun q h => by rw [← hAe]; exact Or.inr h
  have hS : va_S A s.heap s.heap [] := va_S.rf
  have hP : va_P (dC, dI) cls [(m0, .inr (12, [.int th, .ref lr, .ref ld, .ref o1, .int (-1), .int (-1), .int 0, .ref o2, .ref o3, .ref o4, .ref o5, .ref o6, .ref o7, .ref o8, .ref o9, .ref o10, .int 0, .int 0, .null, .int 0, .int 45, .ref t1, .ref t2, .ref t3, .ref t4, .ref t5])), (lr, .inr (14, [.int 0, .ref tE, .int 0])), (ld, .inr (14, [.int 0, .ref tE, .int 0]))] s.heap := hP
  have hl := lv_entry ([.ref m0, .int p1, .int p2]) (n := 5) (Nat.le_of_ble_eq_true rfl)
  rw [lg_entry_eq]
  generalize (lg_sl ([.ref m0, .int p1, .int p2]) ++ List.replicate (5 - (lg_sl ([.ref m0, .int p1, .int p2])).length) Slot.unset).toArray = ls at hl ⊢
  have hl : lv_has ls 5 [(0, .ref m0), (1, .int p1), (2, .int p2)] := hl
  refine lv_aload_n hx hb dX12_act_0 rfl (lv_at hl 0 rfl) ?_
  refine lv_aload_n hx hb dX12_act_1 rfl (lv_at hl 0 rfl) ?_
  refine lv_iload_n hx hb dX12_act_2 rfl (lv_at hl 1 rfl) ?_
  refine lv_iload_n hx hb dX12_act_3 rfl (lv_at hl 2 rfl) ?_
  have hPc := hP.sub (ws' := [(m0, .inr (12, [.int th, .ref lr, .ref ld, .ref o1, .int (-1), .int (-1), .int 0, .ref o2, .ref o3, .ref o4, .ref o5, .ref o6, .ref o7, .ref o8, .ref o9, .ref o10, .int 0, .int 0, .null, .int 0, .int 45, .ref t1, .ref t2, .ref t3, .ref t4, .ref t5])), (ld, .inr (14, [.int 0, .ref tE, .int 0]))]) [0, 2] rfl
  have hKc := hK.sub (tys' := []) [] rfl
  refine va_calli (va_runV (As := [.int p1, .int p2]) (rest := [.ref m0]) ⟨hx, hb, hml, hown, hq⟩ (c_areSeats l hst tE adK adV dC dI m0 lr ld o1 o2 o3 o4 o5 o6 o7 o8 o9 o10 t1 t2 t3 t4 t5 th p1 p2 s.heap.size) (tcV 2 hq q_1650 q_12 q_1647 q_1649 qp_26 rfl rfl (by decide +kernel) ⟨Nat.le_of_ble_eq_true rfl, Nat.le_of_ble_eq_true rfl⟩) (preR.V (va_recv hK hP (ci := 12) (q0 := 0) rfl rfl) (preR.of hPc hKc ham hS hA)) rfl rfl hl.1 rfl (lv_room (Nat.le_of_ble_eq_true rfl)) dX12_act_4 ⟨Nat.le_of_ble_eq_true rfl, Nat.le_of_ble_eq_true rfl⟩) hS (fun q _ h => hA q (Nat.le_trans hS.1 h)) (fun q h => hA q (Nat.le_trans hS.1 h)) (fun r_1 u t H1 locs ht hvm hw hB hz1 hk1 hS => ?_)
  have hP : va_P (dC, dI) cls [(m0, .inr (12, [.int th, .ref lr, .ref ld, .ref o1, .int (-1), .int (-1), .int 0, .ref o2, .ref o3, .ref o4, .ref o5, .ref o6, .ref o7, .ref o8, .ref o9, .ref o10, .int 0, .int 0, .null, .int 0, .int 45, .ref t1, .ref t2, .ref t3, .ref t4, .ref t5])), (lr, .inr (14, [.int 0, .ref tE, .int 0])), (ld, .inr (14, [.int 0, .ref tE, .int 0]))] H1 := ro_keep hP hk1
  generalize H1 = H at hP hS ⊢
  refine W.widen (k := 0) (n := 0) (Nat.le_of_ble_eq_true rfl) (Nat.le_of_ble_eq_true rfl) ?_
  have hw : r_1 = 0 := hw
  subst hw
  refine lv_if_ne (tgt := 14) hx hb dX12_act_7 (by decide) (fun c_2 => ?_) (fun c_2 => ?_)
  · exact absurd c_2 (by decide)
  · refine lv_iconst (v := 1) hx hb dX12_act_10 (by decide) ?_
    refine lv_goto (tgt := 26) hx hb dX12_act_11 (by decide) ?_
    have hPc := hP.sub (ws' := [(m0, .inr (12, [.int th, .ref lr, .ref ld, .ref o1, .int (-1), .int (-1), .int 0, .ref o2, .ref o3, .ref o4, .ref o5, .ref o6, .ref o7, .ref o8, .ref o9, .ref o10, .int 0, .int 0, .null, .int 0, .int 45, .ref t1, .ref t2, .ref t3, .ref t4, .ref t5]))]) [0] rfl
    have hKc := hK.sub (tys' := []) [] rfl
    have hDc := hD.sub (ws' := [(m0, .inr (12, [.int th, .ref lr, .ref ld, .ref o1, .int (-1), .int (-1), .int 0, .ref o2, .ref o3, .ref o4, .ref o5, .ref o6, .ref o7, .ref o8, .ref o9, .ref o10, .int 0, .int 0, .null, .int 0, .int 45, .ref t1, .ref t2, .ref t3, .ref t4, .ref t5]))]) [0] (by decide) rfl
    have hFc := va_free (wc := [(m0, .inr (12, [.int th, .ref lr, .ref ld, .ref o1, .int (-1), .int (-1), .int 0, .ref o2, .ref o3, .ref o4, .ref o5, .ref o6, .ref o7, .ref o8, .ref o9, .ref o10, .int 0, .int 0, .null, .int 0, .int 45, .ref t1, .ref t2, .ref t3, .ref t4, .ref t5]))]) hD hS hA [0] rfl
    refine va_calli (va_runV (As := [.int 1]) (rest := []) ⟨hx, hb, hml, hown, hq⟩ (c_isWrong1 l hst tE adK adV dC dI m0 lr ld o1 o2 o3 o4 o5 o6 o7 o8 o9 o10 t1 t2 t3 t4 t5 th H.size) (tcV 1 hq q_1488 q_12 q_1485 q_1487 qp_22 rfl rfl (by decide +kernel) ⟨Nat.le_of_ble_eq_true rfl, Nat.le_of_ble_eq_true rfl⟩) (pre.V (va_recv hK hP (ci := 12) (q0 := 0) rfl rfl) (pre.of hPc hDc hKc ham hS hFc)) rfl rfl hl.1 rfl (lv_room (Nat.le_of_ble_eq_true rfl)) dX12_act_26 ⟨Nat.le_of_ble_eq_true rfl, Nat.le_of_ble_eq_true rfl⟩) hS (fun q _ h => hFc q h) hFc (fun r_3 u t H1 locs ht hvm hw hB hz1 hk1 hS => ?_)
    obtain ⟨hP1, hK1, hD1⟩ := hB
    rw [ht] at hP1
    have hK1 := va_K.moved hvm.symm hK1
    obtain ⟨hP, hD⟩ := va_join (wr := [(lr, .inr (14, [.int 0, .ref tE, .int 0])), (ld, .inr (14, [.int 0, .ref tE, .int 0]))]) (w1 := [(m0, .inr (12, [.int 1, .ref lr, .ref ld, .ref o1, .int (-1), .int (-1), .int 0, .ref o2, .ref o3, .ref o4, .ref o5, .ref o6, .ref o7, .ref o8, .ref o9, .ref o10, .int 0, .int 0, .null, .int 0, .int 45, .ref t1, .ref t2, .ref t3, .ref t4, .ref t5]))]) (wc := [(m0, .inr (12, [.int th, .ref lr, .ref ld, .ref o1, .int (-1), .int (-1), .int 0, .ref o2, .ref o3, .ref o4, .ref o5, .ref o6, .ref o7, .ref o8, .ref o9, .ref o10, .int 0, .int 0, .null, .int 0, .int 45, .ref t1, .ref t2, .ref t3, .ref t4, .ref t5]))]) hP hD [0] [1, 2] rfl rfl (by decide) (by decide) hk1 hFc hP1 hD1
    have hK := (hK.sub (tys' := []) [] rfl).app hK1
    generalize H1 = H at hP hS ⊢
    have hP : va_P (dC, dI) cls [(lr, .inr (14, [.int 0, .ref tE, .int 0])), (ld, .inr (14, [.int 0, .ref tE, .int 0])), (m0, .inr (12, [.int 1, .ref lr, .ref ld, .ref o1, .int (-1), .int (-1), .int 0, .ref o2, .ref o3, .ref o4, .ref o5, .ref o6, .ref o7, .ref o8, .ref o9, .ref o10, .int 0, .int 0, .null, .int 0, .int 45, .ref t1, .ref t2, .ref t3, .ref t4, .ref t5]))] H := hP
    have hD : va_D A [(lr, .inr (14, [.int 0, .ref tE, .int 0])), (ld, .inr (14, [.int 0, .ref tE, .int 0])), (m0, .inr (12, [.int 1, .ref lr, .ref ld, .ref o1, .int (-1), .int (-1), .int 0, .ref o2, .ref o3, .ref o4, .ref o5, .ref o6, .ref o7, .ref o8, .ref o9, .ref o10, .int 0, .int 0, .null, .int 0, .int 45, .ref t1, .ref t2, .ref t3, .ref t4, .ref t5]))] := hD
    have hK : va_K (dC, dI) cls [] s := hK
    refine W.widen (k := 0) (n := 0) (Nat.le_of_ble_eq_true rfl) (Nat.le_of_ble_eq_true rfl) ?_
    have hw : r_3 = 1 := hw
    subst hw
    refine lv_if_eq (tgt := 34) hx hb dX12_act_29 (by decide) (fun c_4 => ?_) (fun c_4 => ?_)
    · exact absurd c_4 (by decide)
    · refine lv_iconst (v := 0) hx hb dX12_act_32 (by decide) ?_
      refine W.widen (k := 0) (n := 0) (Nat.le_of_ble_eq_true rfl) (Nat.le_of_ble_eq_true rfl) ?_
      have hP9 := hP.sub (ws' := [(m0, .inr (12, [.int 1, .ref lr, .ref ld, .ref o1, .int (-1), .int (-1), .int 0, .ref o2, .ref o3, .ref o4, .ref o5, .ref o6, .ref o7, .ref o8, .ref o9, .ref o10, .int 0, .int 0, .null, .int 0, .int 45, .ref t1, .ref t2, .ref t3, .ref t4, .ref t5]))]) [2] rfl
      have hD9 := hD.sub (ws' := [(m0, .inr (12, [.int 1, .ref lr, .ref ld, .ref o1, .int (-1), .int (-1), .int 0, .ref o2, .ref o3, .ref o4, .ref o5, .ref o6, .ref o7, .ref o8, .ref o9, .ref o10, .int 0, .int 0, .null, .int 0, .int 45, .ref t1, .ref t2, .ref t3, .ref t4, .ref t5]))]) [2] (by decide) rfl
      have hK9 := hK.sub (tys' := []) [] rfl
      exact W.zret (v := 0) hx hb hr (by decide) (fun t ht hW => ⟨⟨0, (), rfl, trivial, ⟨by rw [ht]; exact hP9, va_K.moved hW.alike hK9, hD9⟩⟩, hS.F ht⟩) hS.2.2 dX12_act_33
abbrev cX12_dawn : ByteArray := prog_13_method_20_code
def yX12_dawn : MethodName := ⟨RX12, "dawn", "()I"⟩
theorem dX12_dawn_0 : decode cX12_dawn 0 = .ok (.aload_n 0, 1) := by decide +kernel
theorem dX12_dawn_1 : decode cX12_dawn 1 = .ok (.aload_n 0, 1) := by decide +kernel
theorem dX12_dawn_2 : decode cX12_dawn 2 = .ok (.invokevirtual 154, 3) := by decide +kernel
theorem q_1678 : (Cond.code yX12_isOn cX12_isOn 1 (some .boolean)) ∈ tw := tw_in (i := 1678) (by decide +kernel) (by decide +kernel)
theorem q_1675 : (Cond.methodLink "NightfallVillageModel" 154 yX12_isOn) ∈ tw := tw_in (i := 1675) (by decide +kernel) (by decide +kernel)
theorem q_1677 : (Cond.instanceMethod yX12_isOn) ∈ tw := tw_in (i := 1677) (by decide +kernel) (by decide +kernel)
theorem qp_29 : (Cond.selects yX12_isOn.cls yX12_isOn yX12_isOn) ∈ tw := tw_inP (i := 29) (by decide +kernel) (by decide +kernel)
theorem dX12_dawn_5 : decode cX12_dawn 5 = .ok (.ifCond .ne 7, 3) := by decide +kernel
theorem dX12_dawn_8 : decode cX12_dawn 8 = .ok (.iconst 1, 1) := by decide +kernel
theorem dX12_dawn_9 : decode cX12_dawn 9 = .ok (.goto 15, 3) := by decide +kernel
theorem dX12_dawn_24 : decode cX12_dawn 24 = .ok (.invokevirtual 110, 3) := by decide +kernel
theorem dX12_dawn_27 : decode cX12_dawn 27 = .ok (.ifCond .eq 5, 3) := by decide +kernel
theorem dX12_dawn_30 : decode cX12_dawn 30 = .ok (.iconst 0, 1) := by decide +kernel
theorem dX12_dawn_31 : decode cX12_dawn 31 = .ok (.ireturn, 1) := by decide +kernel
set_option maxHeartbeats 4000000 in
set_option maxRecDepth 100000 in
theorem c_M_dawn (l : Launch) (hst : l.stackTraces = false) (tE : Nat) (adK adV : Nat → Nat) (dC : Nat → ClassId) (dI : Nat → Nat → Nat) (m0 : Nat) (lr : Nat) (ld : Nat) (o1 : Nat) (o2 : Nat) (o3 : Nat) (o4 : Nat) (o5 : Nat) (o6 : Nat) (o7 : Nat) (o8 : Nat) (o9 : Nat) (o10 : Nat) (t1 : Nat) (t2 : Nat) (t3 : Nat) (t4 : Nat) (t5 : Nat) (th : Int32) (sz : Nat) : Met l yX12_dawn (Cond.code yX12_dawn cX12_dawn 15 (some .int) :: tw) ({ frames := 1, cells := 0, slots := 0, locals := 21 }) (va_Pc [.ref m0] (pre tE adK adV (dC, dI) [(m0, .inr (12, [.int th, .ref lr, .ref ld, .ref o1, .int (-1), .int (-1), .int 0, .ref o2, .ref o3, .ref o4, .ref o5, .ref o6, .ref o7, .ref o8, .ref o9, .ref o10, .int 0, .int 0, .null, .int 0, .int 45, .ref t1, .ref t2, .ref t3, .ref t4, .ref t5])), (lr, .inr (14, [.int 0, .ref tE, .int 0])), (ld, .inr (14, [.int 0, .ref tE, .int 0]))] [] sz)) (va_Qi (fun (r : Int32) (_ : Unit) => True) (fun (_ : Unit) (t : State) => va_P (dC, dI) cls [(m0, .inr (12, [.int 1, .ref lr, .ref ld, .ref o1, .int (-1), .int (-1), .int 0, .ref o2, .ref o3, .ref o4, .ref o5, .ref o6, .ref o7, .ref o8, .ref o9, .ref o10, .int 0, .int 0, .null, .int 0, .int 45, .ref t1, .ref t2, .ref t3, .ref t4, .ref t5]))] t.heap ∧ va_K (dC, dI) cls [] t ∧ va_D (va_A [(m0, .inr (12, [.int th, .ref lr, .ref ld, .ref o1, .int (-1), .int (-1), .int 0, .ref o2, .ref o3, .ref o4, .ref o5, .ref o6, .ref o7, .ref o8, .ref o9, .ref o10, .int 0, .int 0, .null, .int 0, .int 45, .ref t1, .ref t2, .ref t3, .ref t4, .ref t5])), (lr, .inr (14, [.int 0, .ref tE, .int 0])), (ld, .inr (14, [.int 0, .ref tE, .int 0]))] sz) [(m0, .inr (12, [.int 1, .ref lr, .ref ld, .ref o1, .int (-1), .int (-1), .int 0, .ref o2, .ref o3, .ref o4, .ref o5, .ref o6, .ref o7, .ref o8, .ref o9, .ref o10, .int 0, .int 0, .null, .int 0, .int 45, .ref t1, .ref t2, .ref t3, .ref t4, .ref t5]))]) (va_A [(m0, .inr (12, [.int th, .ref lr, .ref ld, .ref o1, .int (-1), .int (-1), .int 0, .ref o2, .ref o3, .ref o4, .ref o5, .ref o6, .ref o7, .ref o8, .ref o9, .ref o10, .int 0, .int 0, .null, .int 0, .int 45, .ref t1, .ref t2, .ref t3, .ref t4, .ref t5])), (lr, .inr (14, [.int 0, .ref tE, .int 0])), (ld, .inr (14, [.int 0, .ref tE, .int 0]))] sz)) 0 0 (va_A [(m0, .inr (12, [.int th, .ref lr, .ref ld, .ref o1, .int (-1), .int (-1), .int 0, .ref o2, .ref o3, .ref o4, .ref o5, .ref o6, .ref o7, .ref o8, .ref o9, .ref o10, .int 0, .int 0, .null, .int 0, .int 45, .ref t1, .ref t2, .ref t3, .ref t4, .ref t5])), (lr, .inr (14, [.int 0, .ref tE, .int 0])), (ld, .inr (14, [.int 0, .ref tE, .int 0]))] sz) := by
  refine Met.ofW (cc := cX12_dawn) (maxL := 15) (ret := (some .int)) (by decide) rfl ?_
  intro p e s m args below meth c s₁ B hml hv
  obtain ⟨rfl, hsz, hP, hK, hD0, ham⟩ := hv
  have hx := B.exec
  have hb := B.bytes
  have hr := B.returns
  have hts := atoms_spec B.pre
  have hq : ∀ w ∈ tw, w.before _ s = true := fun w h => hts w (List.mem_cons_of_mem _ h)
  have hown : s.vm.findClass RX12 = some m.cls := findClass_of_methodNamed B.named
  have hlocks := B.notSynchronized
  subst hsz
  have hD := hD0.self (sz := s.heap.size)
  generalize hAe : va_A [(m0, .inr (12, [.int th, .ref lr, .ref ld, .ref o1, .int (-1), .int (-1), .int 0, .ref o2, .ref o3, .ref o4, .ref o5, .ref o6, .ref o7, .ref o8, .ref o9, .ref o10, .int 0, .int 0, .null, .int 0, .int 45, .ref t1, .ref t2, .ref t3, .ref t4, .ref t5])), (lr, .inr (14, [.int 0, .ref tE, .int 0])), (ld, .inr (14, [.int 0, .ref tE, .int 0]))] s.heap.size = A at hD ham ⊢
  have hA : ∀ q : Nat, s.heap.size ≤ q → A q := fun q h => by rw [← hAe]; exact Or.inr h
  have hS : va_S A s.heap s.heap [] := va_S.rf
  have hP : va_P (dC, dI) cls [(m0, .inr (12, [.int th, .ref lr, .ref ld, .ref o1, .int (-1), .int (-1), .int 0, .ref o2, .ref o3, .ref o4, .ref o5, .ref o6, .ref o7, .ref o8, .ref o9, .ref o10, .int 0, .int 0, .null, .int 0, .int 45, .ref t1, .ref t2, .ref t3, .ref t4, .ref t5])), (lr, .inr (14, [.int 0, .ref tE, .int 0])), (ld, .inr (14, [.int 0, .ref tE, .int 0]))] s.heap := hP
  have hl := lv_entry ([.ref m0]) (n := 15) (Nat.le_of_ble_eq_true rfl)
  rw [lg_entry_eq]
  generalize (lg_sl ([.ref m0]) ++ List.replicate (15 - (lg_sl ([.ref m0])).length) Slot.unset).toArray = ls at hl ⊢
  have hl : lv_has ls 15 [(0, .ref m0)] := hl
  refine lv_aload_n hx hb dX12_dawn_0 rfl (lv_at hl 0 rfl) ?_
  refine lv_aload_n hx hb dX12_dawn_1 rfl (lv_at hl 0 rfl) ?_
  have hPc := hP.sub (ws' := [(m0, .inr (12, [.int th, .ref lr, .ref ld, .ref o1, .int (-1), .int (-1), .int 0, .ref o2, .ref o3, .ref o4, .ref o5, .ref o6, .ref o7, .ref o8, .ref o9, .ref o10, .int 0, .int 0, .null, .int 0, .int 45, .ref t1, .ref t2, .ref t3, .ref t4, .ref t5]))]) [0] rfl
  have hKc := hK.sub (tys' := []) [] rfl
  refine va_calli (va_runV (As := []) (rest := [.ref m0]) ⟨hx, hb, hml, hown, hq⟩ (c_isOn l hst tE adK adV dC dI m0 lr ld o1 o2 o3 o4 o5 o6 o7 o8 o9 o10 t1 t2 t3 t4 t5 th s.heap.size) (tcV 0 hq q_1678 q_12 q_1675 q_1677 qp_29 rfl rfl (by decide +kernel) ⟨Nat.le_of_ble_eq_true rfl, Nat.le_of_ble_eq_true rfl⟩) (preR.V (va_recv hK hP (ci := 12) (q0 := 0) rfl rfl) (preR.of hPc hKc ham hS hA)) rfl rfl hl.1 rfl (lv_room (Nat.le_of_ble_eq_true rfl)) dX12_dawn_2 ⟨Nat.le_of_ble_eq_true rfl, Nat.le_of_ble_eq_true rfl⟩) hS (fun q _ h => hA q (Nat.le_trans hS.1 h)) (fun q h => hA q (Nat.le_trans hS.1 h)) (fun r_1 u t H1 locs ht hvm hw hB hz1 hk1 hS => ?_)
  have hP : va_P (dC, dI) cls [(m0, .inr (12, [.int th, .ref lr, .ref ld, .ref o1, .int (-1), .int (-1), .int 0, .ref o2, .ref o3, .ref o4, .ref o5, .ref o6, .ref o7, .ref o8, .ref o9, .ref o10, .int 0, .int 0, .null, .int 0, .int 45, .ref t1, .ref t2, .ref t3, .ref t4, .ref t5])), (lr, .inr (14, [.int 0, .ref tE, .int 0])), (ld, .inr (14, [.int 0, .ref tE, .int 0]))] H1 := ro_keep hP hk1
  generalize H1 = H at hP hS ⊢
  refine W.widen (k := 0) (n := 0) (Nat.le_of_ble_eq_true rfl) (Nat.le_of_ble_eq_true rfl) ?_
  have hw : r_1 = 0 := hw
  subst hw
  refine lv_if_ne (tgt := 12) hx hb dX12_dawn_5 (by decide) (fun c_2 => ?_) (fun c_2 => ?_)
  · exact absurd c_2 (by decide)
  · refine lv_iconst (v := 1) hx hb dX12_dawn_8 (by decide) ?_
    refine lv_goto (tgt := 24) hx hb dX12_dawn_9 (by decide) ?_
    have hPc := hP.sub (ws' := [(m0, .inr (12, [.int th, .ref lr, .ref ld, .ref o1, .int (-1), .int (-1), .int 0, .ref o2, .ref o3, .ref o4, .ref o5, .ref o6, .ref o7, .ref o8, .ref o9, .ref o10, .int 0, .int 0, .null, .int 0, .int 45, .ref t1, .ref t2, .ref t3, .ref t4, .ref t5]))]) [0] rfl
    have hKc := hK.sub (tys' := []) [] rfl
    have hDc := hD.sub (ws' := [(m0, .inr (12, [.int th, .ref lr, .ref ld, .ref o1, .int (-1), .int (-1), .int 0, .ref o2, .ref o3, .ref o4, .ref o5, .ref o6, .ref o7, .ref o8, .ref o9, .ref o10, .int 0, .int 0, .null, .int 0, .int 45, .ref t1, .ref t2, .ref t3, .ref t4, .ref t5]))]) [0] (by decide) rfl
    have hFc := va_free (wc := [(m0, .inr (12, [.int th, .ref lr, .ref ld, .ref o1, .int (-1), .int (-1), .int 0, .ref o2, .ref o3, .ref o4, .ref o5, .ref o6, .ref o7, .ref o8, .ref o9, .ref o10, .int 0, .int 0, .null, .int 0, .int 45, .ref t1, .ref t2, .ref t3, .ref t4, .ref t5]))]) hD hS hA [0] rfl
    refine va_calli (va_runV (As := [.int 1]) (rest := []) ⟨hx, hb, hml, hown, hq⟩ (c_isWrong1 l hst tE adK adV dC dI m0 lr ld o1 o2 o3 o4 o5 o6 o7 o8 o9 o10 t1 t2 t3 t4 t5 th H.size) (tcV 1 hq q_1488 q_12 q_1485 q_1487 qp_22 rfl rfl (by decide +kernel) ⟨Nat.le_of_ble_eq_true rfl, Nat.le_of_ble_eq_true rfl⟩) (pre.V (va_recv hK hP (ci := 12) (q0 := 0) rfl rfl) (pre.of hPc hDc hKc ham hS hFc)) rfl rfl hl.1 rfl (lv_room (Nat.le_of_ble_eq_true rfl)) dX12_dawn_24 ⟨Nat.le_of_ble_eq_true rfl, Nat.le_of_ble_eq_true rfl⟩) hS (fun q _ h => hFc q h) hFc (fun r_3 u t H1 locs ht hvm hw hB hz1 hk1 hS => ?_)
    obtain ⟨hP1, hK1, hD1⟩ := hB
    rw [ht] at hP1
    have hK1 := va_K.moved hvm.symm hK1
    obtain ⟨hP, hD⟩ := va_join (wr := [(lr, .inr (14, [.int 0, .ref tE, .int 0])), (ld, .inr (14, [.int 0, .ref tE, .int 0]))]) (w1 := [(m0, .inr (12, [.int 1, .ref lr, .ref ld, .ref o1, .int (-1), .int (-1), .int 0, .ref o2, .ref o3, .ref o4, .ref o5, .ref o6, .ref o7, .ref o8, .ref o9, .ref o10, .int 0, .int 0, .null, .int 0, .int 45, .ref t1, .ref t2, .ref t3, .ref t4, .ref t5]))]) (wc := [(m0, .inr (12, [.int th, .ref lr, .ref ld, .ref o1, .int (-1), .int (-1), .int 0, .ref o2, .ref o3, .ref o4, .ref o5, .ref o6, .ref o7, .ref o8, .ref o9, .ref o10, .int 0, .int 0, .null, .int 0, .int 45, .ref t1, .ref t2, .ref t3, .ref t4, .ref t5]))]) hP hD [0] [1, 2] rfl rfl (by decide) (by decide) hk1 hFc hP1 hD1
    have hK := (hK.sub (tys' := []) [] rfl).app hK1
    generalize H1 = H at hP hS ⊢
    have hP : va_P (dC, dI) cls [(lr, .inr (14, [.int 0, .ref tE, .int 0])), (ld, .inr (14, [.int 0, .ref tE, .int 0])), (m0, .inr (12, [.int 1, .ref lr, .ref ld, .ref o1, .int (-1), .int (-1), .int 0, .ref o2, .ref o3, .ref o4, .ref o5, .ref o6, .ref o7, .ref o8, .ref o9, .ref o10, .int 0, .int 0, .null, .int 0, .int 45, .ref t1, .ref t2, .ref t3, .ref t4, .ref t5]))] H := hP
    have hD : va_D A [(lr, .inr (14, [.int 0, .ref tE, .int 0])), (ld, .inr (14, [.int 0, .ref tE, .int 0])), (m0, .inr (12, [.int 1, .ref lr, .ref ld, .ref o1, .int (-1), .int (-1), .int 0, .ref o2, .ref o3, .ref o4, .ref o5, .ref o6, .ref o7, .ref o8, .ref o9, .ref o10, .int 0, .int 0, .null, .int 0, .int 45, .ref t1, .ref t2, .ref t3, .ref t4, .ref t5]))] := hD
    have hK : va_K (dC, dI) cls [] s := hK
    refine W.widen (k := 0) (n := 0) (Nat.le_of_ble_eq_true rfl) (Nat.le_of_ble_eq_true rfl) ?_
    have hw : r_3 = 1 := hw
    subst hw
    refine lv_if_eq (tgt := 32) hx hb dX12_dawn_27 (by decide) (fun c_4 => ?_) (fun c_4 => ?_)
    · exact absurd c_4 (by decide)
    · refine lv_iconst (v := 0) hx hb dX12_dawn_30 (by decide) ?_
      refine W.widen (k := 0) (n := 0) (Nat.le_of_ble_eq_true rfl) (Nat.le_of_ble_eq_true rfl) ?_
      have hP9 := hP.sub (ws' := [(m0, .inr (12, [.int 1, .ref lr, .ref ld, .ref o1, .int (-1), .int (-1), .int 0, .ref o2, .ref o3, .ref o4, .ref o5, .ref o6, .ref o7, .ref o8, .ref o9, .ref o10, .int 0, .int 0, .null, .int 0, .int 45, .ref t1, .ref t2, .ref t3, .ref t4, .ref t5]))]) [2] rfl
      have hD9 := hD.sub (ws' := [(m0, .inr (12, [.int 1, .ref lr, .ref ld, .ref o1, .int (-1), .int (-1), .int 0, .ref o2, .ref o3, .ref o4, .ref o5, .ref o6, .ref o7, .ref o8, .ref o9, .ref o10, .int 0, .int 0, .null, .int 0, .int 45, .ref t1, .ref t2, .ref t3, .ref t4, .ref t5]))]) [2] (by decide) rfl
      have hK9 := hK.sub (tys' := []) [] rfl
      exact W.iret (v := 0) hx hb hr (fun t ht hW => ⟨⟨0, (), rfl, trivial, ⟨by rw [ht]; exact hP9, va_K.moved hW.alike hK9, hD9⟩⟩, hS.F ht⟩) hS.2.2 dX12_dawn_31
abbrev cX12_didAct : ByteArray := prog_13_method_25_code
def yX12_didAct : MethodName := ⟨RX12, "didAct", "(I)Z"⟩
theorem dX12_didAct_0 : decode cX12_didAct 0 = .ok (.aload_n 0, 1) := by decide +kernel
theorem dX12_didAct_1 : decode cX12_didAct 1 = .ok (.aload_n 0, 1) := by decide +kernel
theorem dX12_didAct_2 : decode cX12_didAct 2 = .ok (.getfield 26, 3) := by decide +kernel
theorem dX12_didAct_5 : decode cX12_didAct 5 = .ok (.iload_n 1, 1) := by decide +kernel
theorem dX12_didAct_6 : decode cX12_didAct 6 = .ok (.invokestatic 123, 3) := by decide +kernel
theorem dX12_didAct_9 : decode cX12_didAct 9 = .ok (.ifCond .ne 7, 3) := by decide +kernel
theorem dX12_didAct_12 : decode cX12_didAct 12 = .ok (.iconst 1, 1) := by decide +kernel
theorem dX12_didAct_13 : decode cX12_didAct 13 = .ok (.goto 15, 3) := by decide +kernel
theorem dX12_didAct_28 : decode cX12_didAct 28 = .ok (.invokevirtual 110, 3) := by decide +kernel
theorem dX12_didAct_31 : decode cX12_didAct 31 = .ok (.ifCond .ne 16, 3) := by decide +kernel
theorem dX12_didAct_47 : decode cX12_didAct 47 = .ok (.iconst 0, 1) := by decide +kernel
theorem dX12_didAct_48 : decode cX12_didAct 48 = .ok (.ireturn, 1) := by decide +kernel
set_option maxHeartbeats 4000000 in
set_option maxRecDepth 100000 in
theorem c_M_didAct (l : Launch) (hst : l.stackTraces = false) (tE : Nat) (adK adV : Nat → Nat) (dC : Nat → ClassId) (dI : Nat → Nat → Nat) (m0 : Nat) (lr : Nat) (ld : Nat) (o1 : Nat) (o2 : Nat) (o3 : Nat) (o4 : Nat) (o5 : Nat) (o6 : Nat) (o7 : Nat) (o8 : Nat) (o9 : Nat) (o10 : Nat) (t1 : Nat) (t2 : Nat) (t3 : Nat) (t4 : Nat) (t5 : Nat) (th : Int32) (p1 : Int32) (sz : Nat) : Met l yX12_didAct (Cond.code yX12_didAct cX12_didAct 2 (some .boolean) :: tw) ({ frames := 2, cells := 0, slots := 0, locals := 41 }) (va_Pc [.ref m0, .int p1] (pre tE adK adV (dC, dI) [(m0, .inr (12, [.int th, .ref lr, .ref ld, .ref o1, .int (-1), .int (-1), .int 0, .ref o2, .ref o3, .ref o4, .ref o5, .ref o6, .ref o7, .ref o8, .ref o9, .ref o10, .int 0, .int 0, .null, .int 0, .int 45, .ref t1, .ref t2, .ref t3, .ref t4, .ref t5])), (lr, .inr (14, [.int 0, .ref tE, .int 0])), (ld, .inr (14, [.int 0, .ref tE, .int 0]))] [] sz)) (va_Qi (fun (r : Int32) (_ : Unit) => True) (fun (_ : Unit) (t : State) => va_P (dC, dI) cls [(m0, .inr (12, [.int 1, .ref lr, .ref ld, .ref o1, .int (-1), .int (-1), .int 0, .ref o2, .ref o3, .ref o4, .ref o5, .ref o6, .ref o7, .ref o8, .ref o9, .ref o10, .int 0, .int 0, .null, .int 0, .int 45, .ref t1, .ref t2, .ref t3, .ref t4, .ref t5]))] t.heap ∧ va_K (dC, dI) cls [] t ∧ va_D (va_A [(m0, .inr (12, [.int th, .ref lr, .ref ld, .ref o1, .int (-1), .int (-1), .int 0, .ref o2, .ref o3, .ref o4, .ref o5, .ref o6, .ref o7, .ref o8, .ref o9, .ref o10, .int 0, .int 0, .null, .int 0, .int 45, .ref t1, .ref t2, .ref t3, .ref t4, .ref t5])), (lr, .inr (14, [.int 0, .ref tE, .int 0])), (ld, .inr (14, [.int 0, .ref tE, .int 0]))] sz) [(m0, .inr (12, [.int 1, .ref lr, .ref ld, .ref o1, .int (-1), .int (-1), .int 0, .ref o2, .ref o3, .ref o4, .ref o5, .ref o6, .ref o7, .ref o8, .ref o9, .ref o10, .int 0, .int 0, .null, .int 0, .int 45, .ref t1, .ref t2, .ref t3, .ref t4, .ref t5]))]) (va_A [(m0, .inr (12, [.int th, .ref lr, .ref ld, .ref o1, .int (-1), .int (-1), .int 0, .ref o2, .ref o3, .ref o4, .ref o5, .ref o6, .ref o7, .ref o8, .ref o9, .ref o10, .int 0, .int 0, .null, .int 0, .int 45, .ref t1, .ref t2, .ref t3, .ref t4, .ref t5])), (lr, .inr (14, [.int 0, .ref tE, .int 0])), (ld, .inr (14, [.int 0, .ref tE, .int 0]))] sz)) 0 0 (va_A [(m0, .inr (12, [.int th, .ref lr, .ref ld, .ref o1, .int (-1), .int (-1), .int 0, .ref o2, .ref o3, .ref o4, .ref o5, .ref o6, .ref o7, .ref o8, .ref o9, .ref o10, .int 0, .int 0, .null, .int 0, .int 45, .ref t1, .ref t2, .ref t3, .ref t4, .ref t5])), (lr, .inr (14, [.int 0, .ref tE, .int 0])), (ld, .inr (14, [.int 0, .ref tE, .int 0]))] sz) := by
  refine Met.ofW (cc := cX12_didAct) (maxL := 2) (ret := (some .boolean)) (by decide) rfl ?_
  intro p e s m args below meth c s₁ B hml hv
  obtain ⟨rfl, hsz, hP, hK, hD0, ham⟩ := hv
  have hx := B.exec
  have hb := B.bytes
  have hr := B.returns
  have hts := atoms_spec B.pre
  have hq : ∀ w ∈ tw, w.before _ s = true := fun w h => hts w (List.mem_cons_of_mem _ h)
  have hown : s.vm.findClass RX12 = some m.cls := findClass_of_methodNamed B.named
  have hlocks := B.notSynchronized
  subst hsz
  have hD := hD0.self (sz := s.heap.size)
  generalize hAe : va_A [(m0, .inr (12, [.int th, .ref lr, .ref ld, .ref o1, .int (-1), .int (-1), .int 0, .ref o2, .ref o3, .ref o4, .ref o5, .ref o6, .ref o7, .ref o8, .ref o9, .ref o10, .int 0, .int 0, .null, .int 0, .int 45, .ref t1, .ref t2, .ref t3, .ref t4, .ref t5])), (lr, .inr (14, [.int 0, .ref tE, .int 0])), (ld, .inr (14, [.int 0, .ref tE, .int 0]))] s.heap.size = A at hD ham ⊢
  have hA : ∀ q : Nat, s.heap.size ≤ q → A q := fun q h => by rw [← hAe]; exact Or.inr h
  have hS : va_S A s.heap s.heap [] := va_S.rf
  have hP : va_P (dC, dI) cls [(m0, .inr (12, [.int th, .ref lr, .ref ld, .ref o1, .int (-1), .int (-1), .int 0, .ref o2, .ref o3, .ref o4, .ref o5, .ref o6, .ref o7, .ref o8, .ref o9, .ref o10, .int 0, .int 0, .null, .int 0, .int 45, .ref t1, .ref t2, .ref t3, .ref t4, .ref t5])), (lr, .inr (14, [.int 0, .ref tE, .int 0])), (ld, .inr (14, [.int 0, .ref tE, .int 0]))] s.heap := hP
  have hl := lv_entry ([.ref m0, .int p1]) (n := 2) (Nat.le_of_ble_eq_true rfl)
  rw [lg_entry_eq]
  generalize (lg_sl ([.ref m0, .int p1]) ++ List.replicate (2 - (lg_sl ([.ref m0, .int p1])).length) Slot.unset).toArray = ls at hl ⊢
  have hl : lv_has ls 2 [(0, .ref m0), (1, .int p1)] := hl
  refine lv_aload_n hx hb dX12_didAct_0 rfl (lv_at hl 0 rfl) ?_
  refine lv_aload_n hx hb dX12_didAct_1 rfl (lv_at hl 0 rfl) ?_
  refine va_get (D := (dC, dI)) (ci := 12) (v := .ref ld) (C := RX12) (T := TX12) (N := 26) hx hb hq i_X12 hown hK hP 0 rfl rfl 2 (by decide) (hq _ q_1306) (fun _ h9 => h9) rfl dX12_didAct_2 ?_
  refine lv_iload_n hx hb dX12_didAct_5 rfl (lv_at hl 1 rfl) ?_
  have hPc := hP.sub (ws' := [(ld, .inr (14, [.int 0, .ref tE, .int 0]))]) [2] rfl
  have hKc := hK.sub (tys' := []) [] rfl
  refine va_calli (va_runS (As := [.ref ld, .int p1]) (rest := [.ref m0]) ⟨hx, hb, hml, hown, hq⟩ (c_isOf l hst tE adK adV dC dI ld p1 s.heap.size) (tcS 2 hq q_1599 q_12 q_1597 q_1598 rfl rfl (by decide +kernel) ⟨Nat.le_of_ble_eq_true rfl, Nat.le_of_ble_eq_true rfl⟩) (preR.S (preR.of hPc hKc ham hS hA)) rfl rfl hl.1 rfl (lv_room (Nat.le_of_ble_eq_true rfl)) dX12_didAct_6 ⟨Nat.le_of_ble_eq_true rfl, Nat.le_of_ble_eq_true rfl⟩) hS (fun q _ h => hA q (Nat.le_trans hS.1 h)) (fun q h => hA q (Nat.le_trans hS.1 h)) (fun r_1 u t H1 locs ht hvm hw hB hz1 hk1 hS => ?_)
  have hP : va_P (dC, dI) cls [(m0, .inr (12, [.int th, .ref lr, .ref ld, .ref o1, .int (-1), .int (-1), .int 0, .ref o2, .ref o3, .ref o4, .ref o5, .ref o6, .ref o7, .ref o8, .ref o9, .ref o10, .int 0, .int 0, .null, .int 0, .int 45, .ref t1, .ref t2, .ref t3, .ref t4, .ref t5])), (lr, .inr (14, [.int 0, .ref tE, .int 0])), (ld, .inr (14, [.int 0, .ref tE, .int 0]))] H1 := ro_keep hP hk1
  generalize H1 = H at hP hS ⊢
  refine W.widen (k := 0) (n := 0) (Nat.le_of_ble_eq_true rfl) (Nat.le_of_ble_eq_true rfl) ?_
  have hw : r_1 = 0 := hw
  subst hw
  refine lv_if_ne (tgt := 16) hx hb dX12_didAct_9 (by decide) (fun c_2 => ?_) (fun c_2 => ?_)
  · exact absurd c_2 (by decide)
  · refine lv_iconst (v := 1) hx hb dX12_didAct_12 (by decide) ?_
    refine lv_goto (tgt := 28) hx hb dX12_didAct_13 (by decide) ?_
    have hPc := hP.sub (ws' := [(m0, .inr (12, [.int th, .ref lr, .ref ld, .ref o1, .int (-1), .int (-1), .int 0, .ref o2, .ref o3, .ref o4, .ref o5, .ref o6, .ref o7, .ref o8, .ref o9, .ref o10, .int 0, .int 0, .null, .int 0, .int 45, .ref t1, .ref t2, .ref t3, .ref t4, .ref t5]))]) [0] rfl
    have hKc := hK.sub (tys' := []) [] rfl
    have hDc := hD.sub (ws' := [(m0, .inr (12, [.int th, .ref lr, .ref ld, .ref o1, .int (-1), .int (-1), .int 0, .ref o2, .ref o3, .ref o4, .ref o5, .ref o6, .ref o7, .ref o8, .ref o9, .ref o10, .int 0, .int 0, .null, .int 0, .int 45, .ref t1, .ref t2, .ref t3, .ref t4, .ref t5]))]) [0] (by decide) rfl
    have hFc := va_free (wc := [(m0, .inr (12, [.int th, .ref lr, .ref ld, .ref o1, .int (-1), .int (-1), .int 0, .ref o2, .ref o3, .ref o4, .ref o5, .ref o6, .ref o7, .ref o8, .ref o9, .ref o10, .int 0, .int 0, .null, .int 0, .int 45, .ref t1, .ref t2, .ref t3, .ref t4, .ref t5]))]) hD hS hA [0] rfl
    refine va_calli (va_runV (As := [.int 1]) (rest := []) ⟨hx, hb, hml, hown, hq⟩ (c_isWrong1 l hst tE adK adV dC dI m0 lr ld o1 o2 o3 o4 o5 o6 o7 o8 o9 o10 t1 t2 t3 t4 t5 th H.size) (tcV 1 hq q_1488 q_12 q_1485 q_1487 qp_22 rfl rfl (by decide +kernel) ⟨Nat.le_of_ble_eq_true rfl, Nat.le_of_ble_eq_true rfl⟩) (pre.V (va_recv hK hP (ci := 12) (q0 := 0) rfl rfl) (pre.of hPc hDc hKc ham hS hFc)) rfl rfl hl.1 rfl (lv_room (Nat.le_of_ble_eq_true rfl)) dX12_didAct_28 ⟨Nat.le_of_ble_eq_true rfl, Nat.le_of_ble_eq_true rfl⟩) hS (fun q _ h => hFc q h) hFc (fun r_3 u t H1 locs ht hvm hw hB hz1 hk1 hS => ?_)
    obtain ⟨hP1, hK1, hD1⟩ := hB
    rw [ht] at hP1
    have hK1 := va_K.moved hvm.symm hK1
    obtain ⟨hP, hD⟩ := va_join (wr := [(lr, .inr (14, [.int 0, .ref tE, .int 0])), (ld, .inr (14, [.int 0, .ref tE, .int 0]))]) (w1 := [(m0, .inr (12, [.int 1, .ref lr, .ref ld, .ref o1, .int (-1), .int (-1), .int 0, .ref o2, .ref o3, .ref o4, .ref o5, .ref o6, .ref o7, .ref o8, .ref o9, .ref o10, .int 0, .int 0, .null, .int 0, .int 45, .ref t1, .ref t2, .ref t3, .ref t4, .ref t5]))]) (wc := [(m0, .inr (12, [.int th, .ref lr, .ref ld, .ref o1, .int (-1), .int (-1), .int 0, .ref o2, .ref o3, .ref o4, .ref o5, .ref o6, .ref o7, .ref o8, .ref o9, .ref o10, .int 0, .int 0, .null, .int 0, .int 45, .ref t1, .ref t2, .ref t3, .ref t4, .ref t5]))]) hP hD [0] [1, 2] rfl rfl (by decide) (by decide) hk1 hFc hP1 hD1
    have hK := (hK.sub (tys' := []) [] rfl).app hK1
    generalize H1 = H at hP hS ⊢
    have hP : va_P (dC, dI) cls [(lr, .inr (14, [.int 0, .ref tE, .int 0])), (ld, .inr (14, [.int 0, .ref tE, .int 0])), (m0, .inr (12, [.int 1, .ref lr, .ref ld, .ref o1, .int (-1), .int (-1), .int 0, .ref o2, .ref o3, .ref o4, .ref o5, .ref o6, .ref o7, .ref o8, .ref o9, .ref o10, .int 0, .int 0, .null, .int 0, .int 45, .ref t1, .ref t2, .ref t3, .ref t4, .ref t5]))] H := hP
    have hD : va_D A [(lr, .inr (14, [.int 0, .ref tE, .int 0])), (ld, .inr (14, [.int 0, .ref tE, .int 0])), (m0, .inr (12, [.int 1, .ref lr, .ref ld, .ref o1, .int (-1), .int (-1), .int 0, .ref o2, .ref o3, .ref o4, .ref o5, .ref o6, .ref o7, .ref o8, .ref o9, .ref o10, .int 0, .int 0, .null, .int 0, .int 45, .ref t1, .ref t2, .ref t3, .ref t4, .ref t5]))] := hD
    have hK : va_K (dC, dI) cls [] s := hK
    refine W.widen (k := 0) (n := 0) (Nat.le_of_ble_eq_true rfl) (Nat.le_of_ble_eq_true rfl) ?_
    have hw : r_3 = 1 := hw
    subst hw
    refine lv_if_ne (tgt := 47) hx hb dX12_didAct_31 (by decide) (fun c_4 => ?_) (fun c_4 => ?_)
    · refine lv_iconst (v := 0) hx hb dX12_didAct_47 (by decide) ?_
      refine W.widen (k := 0) (n := 0) (Nat.le_of_ble_eq_true rfl) (Nat.le_of_ble_eq_true rfl) ?_
      have hP9 := hP.sub (ws' := [(m0, .inr (12, [.int 1, .ref lr, .ref ld, .ref o1, .int (-1), .int (-1), .int 0, .ref o2, .ref o3, .ref o4, .ref o5, .ref o6, .ref o7, .ref o8, .ref o9, .ref o10, .int 0, .int 0, .null, .int 0, .int 45, .ref t1, .ref t2, .ref t3, .ref t4, .ref t5]))]) [2] rfl
      have hD9 := hD.sub (ws' := [(m0, .inr (12, [.int 1, .ref lr, .ref ld, .ref o1, .int (-1), .int (-1), .int 0, .ref o2, .ref o3, .ref o4, .ref o5, .ref o6, .ref o7, .ref o8, .ref o9, .ref o10, .int 0, .int 0, .null, .int 0, .int 45, .ref t1, .ref t2, .ref t3, .ref t4, .ref t5]))]) [2] (by decide) rfl
      have hK9 := hK.sub (tys' := []) [] rfl
      exact W.zret (v := 0) hx hb hr (by decide) (fun t ht hW => ⟨⟨0, (), rfl, trivial, ⟨by rw [ht]; exact hP9, va_K.moved hW.alike hK9, hD9⟩⟩, hS.F ht⟩) hS.2.2 dX12_didAct_48
    · exact absurd c_4 (by decide)
abbrev cX12_told : ByteArray := prog_13_method_27_code
def yX12_told : MethodName := ⟨RX12, "told", "(II)C"⟩
theorem dX12_told_0 : decode cX12_told 0 = .ok (.aload_n 0, 1) := by decide +kernel
theorem dX12_told_1 : decode cX12_told 1 = .ok (.iload_n 1, 1) := by decide +kernel
theorem dX12_told_2 : decode cX12_told 2 = .ok (.iload_n 2, 1) := by decide +kernel
theorem dX12_told_3 : decode cX12_told 3 = .ok (.invokevirtual 225, 3) := by decide +kernel
theorem q_1796 : (Cond.code yX12_isNoNight cX12_isNoNight 3 (some .boolean)) ∈ tw := tw_in (i := 1796) (by decide +kernel) (by decide +kernel)
theorem q_1793 : (Cond.methodLink "NightfallVillageModel" 225 yX12_isNoNight) ∈ tw := tw_in (i := 1793) (by decide +kernel) (by decide +kernel)
theorem q_1795 : (Cond.instanceMethod yX12_isNoNight) ∈ tw := tw_in (i := 1795) (by decide +kernel) (by decide +kernel)
theorem qp_37 : (Cond.selects yX12_isNoNight.cls yX12_isNoNight yX12_isNoNight) ∈ tw := tw_inP (i := 37) (by decide +kernel) (by decide +kernel)
theorem dX12_told_6 : decode cX12_told 6 = .ok (.ifCond .eq 7, 3) := by decide +kernel
theorem dX12_told_9 : decode cX12_told 9 = .ok (.iconst 0, 1) := by decide +kernel
theorem dX12_told_10 : decode cX12_told 10 = .ok (.goto 18, 3) := by decide +kernel
theorem dX12_told_28 : decode cX12_told 28 = .ok (.ireturn, 1) := by decide +kernel
set_option maxHeartbeats 4000000 in
set_option maxRecDepth 100000 in
theorem c_M_told (l : Launch) (hst : l.stackTraces = false) (tE : Nat) (adK adV : Nat → Nat) (dC : Nat → ClassId) (dI : Nat → Nat → Nat) (m0 : Nat) (lr : Nat) (ld : Nat) (o1 : Nat) (o2 : Nat) (o3 : Nat) (o4 : Nat) (o5 : Nat) (o6 : Nat) (o7 : Nat) (o8 : Nat) (o9 : Nat) (o10 : Nat) (t1 : Nat) (t2 : Nat) (t3 : Nat) (t4 : Nat) (t5 : Nat) (th : Int32) (p1 : Int32) (p2 : Int32) (sz : Nat) : Met l yX12_told (Cond.code yX12_told cX12_told 3 (some .char) :: tw) ({ frames := 3, cells := 0, slots := 0, locals := 63 }) (va_Pc [.ref m0, .int p1, .int p2] (pre tE adK adV (dC, dI) [(m0, .inr (12, [.int th, .ref lr, .ref ld, .ref o1, .int (-1), .int (-1), .int 0, .ref o2, .ref o3, .ref o4, .ref o5, .ref o6, .ref o7, .ref o8, .ref o9, .ref o10, .int 0, .int 0, .null, .int 0, .int 45, .ref t1, .ref t2, .ref t3, .ref t4, .ref t5])), (lr, .inr (14, [.int 0, .ref tE, .int 0])), (ld, .inr (14, [.int 0, .ref tE, .int 0]))] [] sz)) (va_Qi (fun (r : Int32) (_ : Unit) => True) (fun (_ : Unit) (t : State) => va_P (dC, dI) cls [(m0, .inr (12, [.int 1, .ref lr, .ref ld, .ref o1, .int (-1), .int (-1), .int 0, .ref o2, .ref o3, .ref o4, .ref o5, .ref o6, .ref o7, .ref o8, .ref o9, .ref o10, .int 0, .int 0, .null, .int 0, .int 45, .ref t1, .ref t2, .ref t3, .ref t4, .ref t5]))] t.heap ∧ va_K (dC, dI) cls [] t ∧ va_D (va_A [(m0, .inr (12, [.int th, .ref lr, .ref ld, .ref o1, .int (-1), .int (-1), .int 0, .ref o2, .ref o3, .ref o4, .ref o5, .ref o6, .ref o7, .ref o8, .ref o9, .ref o10, .int 0, .int 0, .null, .int 0, .int 45, .ref t1, .ref t2, .ref t3, .ref t4, .ref t5])), (lr, .inr (14, [.int 0, .ref tE, .int 0])), (ld, .inr (14, [.int 0, .ref tE, .int 0]))] sz) [(m0, .inr (12, [.int 1, .ref lr, .ref ld, .ref o1, .int (-1), .int (-1), .int 0, .ref o2, .ref o3, .ref o4, .ref o5, .ref o6, .ref o7, .ref o8, .ref o9, .ref o10, .int 0, .int 0, .null, .int 0, .int 45, .ref t1, .ref t2, .ref t3, .ref t4, .ref t5]))]) (va_A [(m0, .inr (12, [.int th, .ref lr, .ref ld, .ref o1, .int (-1), .int (-1), .int 0, .ref o2, .ref o3, .ref o4, .ref o5, .ref o6, .ref o7, .ref o8, .ref o9, .ref o10, .int 0, .int 0, .null, .int 0, .int 45, .ref t1, .ref t2, .ref t3, .ref t4, .ref t5])), (lr, .inr (14, [.int 0, .ref tE, .int 0])), (ld, .inr (14, [.int 0, .ref tE, .int 0]))] sz)) 0 0 (va_A [(m0, .inr (12, [.int th, .ref lr, .ref ld, .ref o1, .int (-1), .int (-1), .int 0, .ref o2, .ref o3, .ref o4, .ref o5, .ref o6, .ref o7, .ref o8, .ref o9, .ref o10, .int 0, .int 0, .null, .int 0, .int 45, .ref t1, .ref t2, .ref t3, .ref t4, .ref t5])), (lr, .inr (14, [.int 0, .ref tE, .int 0])), (ld, .inr (14, [.int 0, .ref tE, .int 0]))] sz) := by
  refine Met.ofW (cc := cX12_told) (maxL := 3) (ret := (some .char)) (by decide) rfl ?_
  intro p e s m args below meth c s₁ B hml hv
  obtain ⟨rfl, hsz, hP, hK, hD0, ham⟩ := hv
  have hx := B.exec
  have hb := B.bytes
  have hr := B.returns
  have hts := atoms_spec B.pre
  have hq : ∀ w ∈ tw, w.before _ s = true := fun w h => hts w (List.mem_cons_of_mem _ h)
  have hown : s.vm.findClass RX12 = some m.cls := findClass_of_methodNamed B.named
  have hlocks := B.notSynchronized
  subst hsz
  have hD := hD0.self (sz := s.heap.size)
  generalize hAe : va_A [(m0, .inr (12, [.int th, .ref lr, .ref ld, .ref o1, .int (-1), .int (-1), .int 0, .ref o2, .ref o3, .ref o4, .ref o5, .ref o6, .ref o7, .ref o8, .ref o9, .ref o10, .int 0, .int 0, .null, .int 0, .int 45, .ref t1, .ref t2, .ref t3, .ref t4, .ref t5])), (lr, .inr (14, [.int 0, .ref tE, .int 0])), (ld, .inr (14, [.int 0, .ref tE, .int 0]))] s.heap.size = A at hD ham ⊢
  have hA : ∀ q : Nat, s.heap.size ≤ q → A q := fun q h => by rw [← hAe]; exact Or.inr h
  have hS : va_S A s.heap s.heap [] := va_S.rf
  have hP : va_P (dC, dI) cls [(m0, .inr (12, [.int th, .ref lr, .ref ld, .ref o1, .int (-1), .int (-1), .int 0, .ref o2, .ref o3, .ref o4, .ref o5, .ref o6, .ref o7, .ref o8, .ref o9, .ref o10, .int 0, .int 0, .null, .int 0, .int 45, .ref t1, .ref t2, .ref t3, .ref t4, .ref t5])), (lr, .inr (14, [.int 0, .ref tE, .int 0])), (ld, .inr (14, [.int 0, .ref tE, .int 0]))] s.heap := hP
  have hl := lv_entry ([.ref m0, .int p1, .int p2]) (n := 3) (Nat.le_of_ble_eq_true rfl)
  rw [lg_entry_eq]
  generalize (lg_sl ([.ref m0, .int p1, .int p2]) ++ List.replicate (3 - (lg_sl ([.ref m0, .int p1, .int p2])).length) Slot.unset).toArray = ls at hl ⊢
  have hl : lv_has ls 3 [(0, .ref m0), (1, .int p1), (2, .int p2)] := hl
  refine lv_aload_n hx hb dX12_told_0 rfl (lv_at hl 0 rfl) ?_
  refine lv_iload_n hx hb dX12_told_1 rfl (lv_at hl 1 rfl) ?_
  refine lv_iload_n hx hb dX12_told_2 rfl (lv_at hl 2 rfl) ?_
  have hPc := hP.sub (ws' := [(m0, .inr (12, [.int th, .ref lr, .ref ld, .ref o1, .int (-1), .int (-1), .int 0, .ref o2, .ref o3, .ref o4, .ref o5, .ref o6, .ref o7, .ref o8, .ref o9, .ref o10, .int 0, .int 0, .null, .int 0, .int 45, .ref t1, .ref t2, .ref t3, .ref t4, .ref t5])), (lr, .inr (14, [.int 0, .ref tE, .int 0])), (ld, .inr (14, [.int 0, .ref tE, .int 0]))]) [0, 1, 2] rfl
  have hKc := hK.sub (tys' := []) [] rfl
  have hDc := hD.sub (ws' := [(m0, .inr (12, [.int th, .ref lr, .ref ld, .ref o1, .int (-1), .int (-1), .int 0, .ref o2, .ref o3, .ref o4, .ref o5, .ref o6, .ref o7, .ref o8, .ref o9, .ref o10, .int 0, .int 0, .null, .int 0, .int 45, .ref t1, .ref t2, .ref t3, .ref t4, .ref t5])), (lr, .inr (14, [.int 0, .ref tE, .int 0])), (ld, .inr (14, [.int 0, .ref tE, .int 0]))]) [0, 1, 2] (by decide) rfl
  have hFc := va_free (wc := [(m0, .inr (12, [.int th, .ref lr, .ref ld, .ref o1, .int (-1), .int (-1), .int 0, .ref o2, .ref o3, .ref o4, .ref o5, .ref o6, .ref o7, .ref o8, .ref o9, .ref o10, .int 0, .int 0, .null, .int 0, .int 45, .ref t1, .ref t2, .ref t3, .ref t4, .ref t5])), (lr, .inr (14, [.int 0, .ref tE, .int 0])), (ld, .inr (14, [.int 0, .ref tE, .int 0]))]) hD hS hA [0, 1, 2] rfl
  refine va_calli (va_runV (As := [.int p1, .int p2]) (rest := []) ⟨hx, hb, hml, hown, hq⟩ (c_M_isNoNight l hst tE adK adV dC dI m0 lr ld o1 o2 o3 o4 o5 o6 o7 o8 o9 o10 t1 t2 t3 t4 t5 th p1 p2 s.heap.size) (tcV 2 hq q_1796 q_12 q_1793 q_1795 qp_37 rfl rfl (by decide +kernel) ⟨Nat.le_of_ble_eq_true rfl, Nat.le_of_ble_eq_true rfl⟩) (pre.V (va_recv hK hP (ci := 12) (q0 := 0) rfl rfl) (pre.of hPc hDc hKc ham hS hFc)) rfl rfl hl.1 rfl (lv_room (Nat.le_of_ble_eq_true rfl)) dX12_told_3 ⟨Nat.le_of_ble_eq_true rfl, Nat.le_of_ble_eq_true rfl⟩) hS (fun q _ h => hFc q h) hFc (fun r_1 u t H1 locs ht hvm hw hB hz1 hk1 hS => ?_)
  obtain ⟨hP1, hK1, hD1⟩ := hB
  rw [ht] at hP1
  have hK1 := va_K.moved hvm.symm hK1
  obtain ⟨hP, hD⟩ := va_join (wr := []) (w1 := [(m0, .inr (12, [.int 1, .ref lr, .ref ld, .ref o1, .int (-1), .int (-1), .int 0, .ref o2, .ref o3, .ref o4, .ref o5, .ref o6, .ref o7, .ref o8, .ref o9, .ref o10, .int 0, .int 0, .null, .int 0, .int 45, .ref t1, .ref t2, .ref t3, .ref t4, .ref t5]))]) (wc := [(m0, .inr (12, [.int th, .ref lr, .ref ld, .ref o1, .int (-1), .int (-1), .int 0, .ref o2, .ref o3, .ref o4, .ref o5, .ref o6, .ref o7, .ref o8, .ref o9, .ref o10, .int 0, .int 0, .null, .int 0, .int 45, .ref t1, .ref t2, .ref t3, .ref t4, .ref t5])), (lr, .inr (14, [.int 0, .ref tE, .int 0])), (ld, .inr (14, [.int 0, .ref tE, .int 0]))]) hP hD [0, 1, 2] [] rfl rfl (by decide) (by decide) hk1 hFc hP1 hD1
  have hK := (hK.sub (tys' := []) [] rfl).app hK1
  generalize H1 = H at hP hS ⊢
  have hP : va_P (dC, dI) cls [(m0, .inr (12, [.int 1, .ref lr, .ref ld, .ref o1, .int (-1), .int (-1), .int 0, .ref o2, .ref o3, .ref o4, .ref o5, .ref o6, .ref o7, .ref o8, .ref o9, .ref o10, .int 0, .int 0, .null, .int 0, .int 45, .ref t1, .ref t2, .ref t3, .ref t4, .ref t5]))] H := hP
  have hD : va_D A [(m0, .inr (12, [.int 1, .ref lr, .ref ld, .ref o1, .int (-1), .int (-1), .int 0, .ref o2, .ref o3, .ref o4, .ref o5, .ref o6, .ref o7, .ref o8, .ref o9, .ref o10, .int 0, .int 0, .null, .int 0, .int 45, .ref t1, .ref t2, .ref t3, .ref t4, .ref t5]))] := hD
  have hK : va_K (dC, dI) cls [] s := hK
  refine W.widen (k := 0) (n := 0) (Nat.le_of_ble_eq_true rfl) (Nat.le_of_ble_eq_true rfl) ?_
  have hw : r_1 = 1 := hw
  subst hw
  refine lv_if_eq (tgt := 13) hx hb dX12_told_6 (by decide) (fun c_2 => ?_) (fun c_2 => ?_)
  · exact absurd c_2 (by decide)
  · refine lv_iconst (v := 0) hx hb dX12_told_9 (by decide) ?_
    refine lv_goto (tgt := 28) hx hb dX12_told_10 (by decide) ?_
    refine W.widen (k := 0) (n := 0) (Nat.le_of_ble_eq_true rfl) (Nat.le_of_ble_eq_true rfl) ?_
    have hP9 := hP.sub (ws' := [(m0, .inr (12, [.int 1, .ref lr, .ref ld, .ref o1, .int (-1), .int (-1), .int 0, .ref o2, .ref o3, .ref o4, .ref o5, .ref o6, .ref o7, .ref o8, .ref o9, .ref o10, .int 0, .int 0, .null, .int 0, .int 45, .ref t1, .ref t2, .ref t3, .ref t4, .ref t5]))]) [0] rfl
    have hD9 := hD.sub (ws' := [(m0, .inr (12, [.int 1, .ref lr, .ref ld, .ref o1, .int (-1), .int (-1), .int 0, .ref o2, .ref o3, .ref o4, .ref o5, .ref o6, .ref o7, .ref o8, .ref o9, .ref o10, .int 0, .int 0, .null, .int 0, .int 45, .ref t1, .ref t2, .ref t3, .ref t4, .ref t5]))]) [0] (by decide) rfl
    have hK9 := hK.sub (tys' := []) [] rfl
    exact W.zret (v := 0) hx hb hr (by decide) (fun t ht hW => ⟨⟨0, (), rfl, trivial, ⟨by rw [ht]; exact hP9, va_K.moved hW.alike hK9, hD9⟩⟩, hS.F ht⟩) hS.2.2 dX12_told_28
abbrev cX12_seen : ByteArray := prog_13_method_28_code
def yX12_seen : MethodName := ⟨RX12, "seen", "(II)I"⟩
theorem dX12_seen_0 : decode cX12_seen 0 = .ok (.aload_n 0, 1) := by decide +kernel
theorem dX12_seen_1 : decode cX12_seen 1 = .ok (.iload_n 1, 1) := by decide +kernel
theorem dX12_seen_2 : decode cX12_seen 2 = .ok (.iload_n 2, 1) := by decide +kernel
theorem dX12_seen_3 : decode cX12_seen 3 = .ok (.invokevirtual 225, 3) := by decide +kernel
theorem dX12_seen_6 : decode cX12_seen 6 = .ok (.ifCond .eq 7, 3) := by decide +kernel
theorem dX12_seen_9 : decode cX12_seen 9 = .ok (.iconst 0, 1) := by decide +kernel
theorem dX12_seen_10 : decode cX12_seen 10 = .ok (.goto 18, 3) := by decide +kernel
theorem dX12_seen_28 : decode cX12_seen 28 = .ok (.ireturn, 1) := by decide +kernel
set_option maxHeartbeats 4000000 in
set_option maxRecDepth 100000 in
theorem c_M_seen (l : Launch) (hst : l.stackTraces = false) (tE : Nat) (adK adV : Nat → Nat) (dC : Nat → ClassId) (dI : Nat → Nat → Nat) (m0 : Nat) (lr : Nat) (ld : Nat) (o1 : Nat) (o2 : Nat) (o3 : Nat) (o4 : Nat) (o5 : Nat) (o6 : Nat) (o7 : Nat) (o8 : Nat) (o9 : Nat) (o10 : Nat) (t1 : Nat) (t2 : Nat) (t3 : Nat) (t4 : Nat) (t5 : Nat) (th : Int32) (p1 : Int32) (p2 : Int32) (sz : Nat) : Met l yX12_seen (Cond.code yX12_seen cX12_seen 3 (some .int) :: tw) ({ frames := 3, cells := 0, slots := 0, locals := 63 }) (va_Pc [.ref m0, .int p1, .int p2] (pre tE adK adV (dC, dI) [(m0, .inr (12, [.int th, .ref lr, .ref ld, .ref o1, .int (-1), .int (-1), .int 0, .ref o2, .ref o3, .ref o4, .ref o5, .ref o6, .ref o7, .ref o8, .ref o9, .ref o10, .int 0, .int 0, .null, .int 0, .int 45, .ref t1, .ref t2, .ref t3, .ref t4, .ref t5])), (lr, .inr (14, [.int 0, .ref tE, .int 0])), (ld, .inr (14, [.int 0, .ref tE, .int 0]))] [] sz)) (va_Qi (fun (r : Int32) (_ : Unit) => True) (fun (_ : Unit) (t : State) => va_P (dC, dI) cls [(m0, .inr (12, [.int 1, .ref lr, .ref ld, .ref o1, .int (-1), .int (-1), .int 0, .ref o2, .ref o3, .ref o4, .ref o5, .ref o6, .ref o7, .ref o8, .ref o9, .ref o10, .int 0, .int 0, .null, .int 0, .int 45, .ref t1, .ref t2, .ref t3, .ref t4, .ref t5]))] t.heap ∧ va_K (dC, dI) cls [] t ∧ va_D (va_A [(m0, .inr (12, [.int th, .ref lr, .ref ld, .ref o1, .int (-1), .int (-1), .int 0, .ref o2, .ref o3, .ref o4, .ref o5, .ref o6, .ref o7, .ref o8, .ref o9, .ref o10, .int 0, .int 0, .null, .int 0, .int 45, .ref t1, .ref t2, .ref t3, .ref t4, .ref t5])), (lr, .inr (14, [.int 0, .ref tE, .int 0])), (ld, .inr (14, [.int 0, .ref tE, .int 0]))] sz) [(m0, .inr (12, [.int 1, .ref lr, .ref ld, .ref o1, .int (-1), .int (-1), .int 0, .ref o2, .ref o3, .ref o4, .ref o5, .ref o6, .ref o7, .ref o8, .ref o9, .ref o10, .int 0, .int 0, .null, .int 0, .int 45, .ref t1, .ref t2, .ref t3, .ref t4, .ref t5]))]) (va_A [(m0, .inr (12, [.int th, .ref lr, .ref ld, .ref o1, .int (-1), .int (-1), .int 0, .ref o2, .ref o3, .ref o4, .ref o5, .ref o6, .ref o7, .ref o8, .ref o9, .ref o10, .int 0, .int 0, .null, .int 0, .int 45, .ref t1, .ref t2, .ref t3, .ref t4, .ref t5])), (lr, .inr (14, [.int 0, .ref tE, .int 0])), (ld, .inr (14, [.int 0, .ref tE, .int 0]))] sz)) 0 0 (va_A [(m0, .inr (12, [.int th, .ref lr, .ref ld, .ref o1, .int (-1), .int (-1), .int 0, .ref o2, .ref o3, .ref o4, .ref o5, .ref o6, .ref o7, .ref o8, .ref o9, .ref o10, .int 0, .int 0, .null, .int 0, .int 45, .ref t1, .ref t2, .ref t3, .ref t4, .ref t5])), (lr, .inr (14, [.int 0, .ref tE, .int 0])), (ld, .inr (14, [.int 0, .ref tE, .int 0]))] sz) := by
  refine Met.ofW (cc := cX12_seen) (maxL := 3) (ret := (some .int)) (by decide) rfl ?_
  intro p e s m args below meth c s₁ B hml hv
  obtain ⟨rfl, hsz, hP, hK, hD0, ham⟩ := hv
  have hx := B.exec
  have hb := B.bytes
  have hr := B.returns
  have hts := atoms_spec B.pre
  have hq : ∀ w ∈ tw, w.before _ s = true := fun w h => hts w (List.mem_cons_of_mem _ h)
  have hown : s.vm.findClass RX12 = some m.cls := findClass_of_methodNamed B.named
  have hlocks := B.notSynchronized
  subst hsz
  have hD := hD0.self (sz := s.heap.size)
  generalize hAe : va_A [(m0, .inr (12, [.int th, .ref lr, .ref ld, .ref o1, .int (-1), .int (-1), .int 0, .ref o2, .ref o3, .ref o4, .ref o5, .ref o6, .ref o7, .ref o8, .ref o9, .ref o10, .int 0, .int 0, .null, .int 0, .int 45, .ref t1, .ref t2, .ref t3, .ref t4, .ref t5])), (lr, .inr (14, [.int 0, .ref tE, .int 0])), (ld, .inr (14, [.int 0, .ref tE, .int 0]))] s.heap.size = A at hD ham ⊢
  have hA : ∀ q : Nat, s.heap.size ≤ q → A q := fun q h => by rw [← hAe]; exact Or.inr h
  have hS : va_S A s.heap s.heap [] := va_S.rf
  have hP : va_P (dC, dI) cls [(m0, .inr (12, [.int th, .ref lr, .ref ld, .ref o1, .int (-1), .int (-1), .int 0, .ref o2, .ref o3, .ref o4, .ref o5, .ref o6, .ref o7, .ref o8, .ref o9, .ref o10, .int 0, .int 0, .null, .int 0, .int 45, .ref t1, .ref t2, .ref t3, .ref t4, .ref t5])), (lr, .inr (14, [.int 0, .ref tE, .int 0])), (ld, .inr (14, [.int 0, .ref tE, .int 0]))] s.heap := hP
  have hl := lv_entry ([.ref m0, .int p1, .int p2]) (n := 3) (Nat.le_of_ble_eq_true rfl)
  rw [lg_entry_eq]
  generalize (lg_sl ([.ref m0, .int p1, .int p2]) ++ List.replicate (3 - (lg_sl ([.ref m0, .int p1, .int p2])).length) Slot.unset).toArray = ls at hl ⊢
  have hl : lv_has ls 3 [(0, .ref m0), (1, .int p1), (2, .int p2)] := hl
  refine lv_aload_n hx hb dX12_seen_0 rfl (lv_at hl 0 rfl) ?_
  refine lv_iload_n hx hb dX12_seen_1 rfl (lv_at hl 1 rfl) ?_
  refine lv_iload_n hx hb dX12_seen_2 rfl (lv_at hl 2 rfl) ?_
  have hPc := hP.sub (ws' := [(m0, .inr (12, [.int th, .ref lr, .ref ld, .ref o1, .int (-1), .int (-1), .int 0, .ref o2, .ref o3, .ref o4, .ref o5, .ref o6, .ref o7, .ref o8, .ref o9, .ref o10, .int 0, .int 0, .null, .int 0, .int 45, .ref t1, .ref t2, .ref t3, .ref t4, .ref t5])), (lr, .inr (14, [.int 0, .ref tE, .int 0])), (ld, .inr (14, [.int 0, .ref tE, .int 0]))]) [0, 1, 2] rfl
  have hKc := hK.sub (tys' := []) [] rfl
  have hDc := hD.sub (ws' := [(m0, .inr (12, [.int th, .ref lr, .ref ld, .ref o1, .int (-1), .int (-1), .int 0, .ref o2, .ref o3, .ref o4, .ref o5, .ref o6, .ref o7, .ref o8, .ref o9, .ref o10, .int 0, .int 0, .null, .int 0, .int 45, .ref t1, .ref t2, .ref t3, .ref t4, .ref t5])), (lr, .inr (14, [.int 0, .ref tE, .int 0])), (ld, .inr (14, [.int 0, .ref tE, .int 0]))]) [0, 1, 2] (by decide) rfl
  have hFc := va_free (wc := [(m0, .inr (12, [.int th, .ref lr, .ref ld, .ref o1, .int (-1), .int (-1), .int 0, .ref o2, .ref o3, .ref o4, .ref o5, .ref o6, .ref o7, .ref o8, .ref o9, .ref o10, .int 0, .int 0, .null, .int 0, .int 45, .ref t1, .ref t2, .ref t3, .ref t4, .ref t5])), (lr, .inr (14, [.int 0, .ref tE, .int 0])), (ld, .inr (14, [.int 0, .ref tE, .int 0]))]) hD hS hA [0, 1, 2] rfl
  refine va_calli (va_runV (As := [.int p1, .int p2]) (rest := []) ⟨hx, hb, hml, hown, hq⟩ (c_M_isNoNight l hst tE adK adV dC dI m0 lr ld o1 o2 o3 o4 o5 o6 o7 o8 o9 o10 t1 t2 t3 t4 t5 th p1 p2 s.heap.size) (tcV 2 hq q_1796 q_12 q_1793 q_1795 qp_37 rfl rfl (by decide +kernel) ⟨Nat.le_of_ble_eq_true rfl, Nat.le_of_ble_eq_true rfl⟩) (pre.V (va_recv hK hP (ci := 12) (q0 := 0) rfl rfl) (pre.of hPc hDc hKc ham hS hFc)) rfl rfl hl.1 rfl (lv_room (Nat.le_of_ble_eq_true rfl)) dX12_seen_3 ⟨Nat.le_of_ble_eq_true rfl, Nat.le_of_ble_eq_true rfl⟩) hS (fun q _ h => hFc q h) hFc (fun r_1 u t H1 locs ht hvm hw hB hz1 hk1 hS => ?_)
  obtain ⟨hP1, hK1, hD1⟩ := hB
  rw [ht] at hP1
  have hK1 := va_K.moved hvm.symm hK1
  obtain ⟨hP, hD⟩ := va_join (wr := []) (w1 := [(m0, .inr (12, [.int 1, .ref lr, .ref ld, .ref o1, .int (-1), .int (-1), .int 0, .ref o2, .ref o3, .ref o4, .ref o5, .ref o6, .ref o7, .ref o8, .ref o9, .ref o10, .int 0, .int 0, .null, .int 0, .int 45, .ref t1, .ref t2, .ref t3, .ref t4, .ref t5]))]) (wc := [(m0, .inr (12, [.int th, .ref lr, .ref ld, .ref o1, .int (-1), .int (-1), .int 0, .ref o2, .ref o3, .ref o4, .ref o5, .ref o6, .ref o7, .ref o8, .ref o9, .ref o10, .int 0, .int 0, .null, .int 0, .int 45, .ref t1, .ref t2, .ref t3, .ref t4, .ref t5])), (lr, .inr (14, [.int 0, .ref tE, .int 0])), (ld, .inr (14, [.int 0, .ref tE, .int 0]))]) hP hD [0, 1, 2] [] rfl rfl (by decide) (by decide) hk1 hFc hP1 hD1
  have hK := (hK.sub (tys' := []) [] rfl).app hK1
  generalize H1 = H at hP hS ⊢
  have hP : va_P (dC, dI) cls [(m0, .inr (12, [.int 1, .ref lr, .ref ld, .ref o1, .int (-1), .int (-1), .int 0, .ref o2, .ref o3, .ref o4, .ref o5, .ref o6, .ref o7, .ref o8, .ref o9, .ref o10, .int 0, .int 0, .null, .int 0, .int 45, .ref t1, .ref t2, .ref t3, .ref t4, .ref t5]))] H := hP
  have hD : va_D A [(m0, .inr (12, [.int 1, .ref lr, .ref ld, .ref o1, .int (-1), .int (-1), .int 0, .ref o2, .ref o3, .ref o4, .ref o5, .ref o6, .ref o7, .ref o8, .ref o9, .ref o10, .int 0, .int 0, .null, .int 0, .int 45, .ref t1, .ref t2, .ref t3, .ref t4, .ref t5]))] := hD
  have hK : va_K (dC, dI) cls [] s := hK
  refine W.widen (k := 0) (n := 0) (Nat.le_of_ble_eq_true rfl) (Nat.le_of_ble_eq_true rfl) ?_
  have hw : r_1 = 1 := hw
  subst hw
  refine lv_if_eq (tgt := 13) hx hb dX12_seen_6 (by decide) (fun c_2 => ?_) (fun c_2 => ?_)
  · exact absurd c_2 (by decide)
  · refine lv_iconst (v := 0) hx hb dX12_seen_9 (by decide) ?_
    refine lv_goto (tgt := 28) hx hb dX12_seen_10 (by decide) ?_
    refine W.widen (k := 0) (n := 0) (Nat.le_of_ble_eq_true rfl) (Nat.le_of_ble_eq_true rfl) ?_
    have hP9 := hP.sub (ws' := [(m0, .inr (12, [.int 1, .ref lr, .ref ld, .ref o1, .int (-1), .int (-1), .int 0, .ref o2, .ref o3, .ref o4, .ref o5, .ref o6, .ref o7, .ref o8, .ref o9, .ref o10, .int 0, .int 0, .null, .int 0, .int 45, .ref t1, .ref t2, .ref t3, .ref t4, .ref t5]))]) [0] rfl
    have hD9 := hD.sub (ws' := [(m0, .inr (12, [.int 1, .ref lr, .ref ld, .ref o1, .int (-1), .int (-1), .int 0, .ref o2, .ref o3, .ref o4, .ref o5, .ref o6, .ref o7, .ref o8, .ref o9, .ref o10, .int 0, .int 0, .null, .int 0, .int 45, .ref t1, .ref t2, .ref t3, .ref t4, .ref t5]))]) [0] (by decide) rfl
    have hK9 := hK.sub (tys' := []) [] rfl
    exact W.iret (v := 0) hx hb hr (fun t ht hW => ⟨⟨0, (), rfl, trivial, ⟨by rw [ht]; exact hP9, va_K.moved hW.alike hK9, hD9⟩⟩, hS.F ht⟩) hS.2.2 dX12_seen_28
abbrev cX12_vote : ByteArray := prog_13_method_29_code
def yX12_vote : MethodName := ⟨RX12, "vote", "(II)Z"⟩
theorem dX12_vote_0 : decode cX12_vote 0 = .ok (.aload_n 0, 1) := by decide +kernel
theorem dX12_vote_1 : decode cX12_vote 1 = .ok (.aload_n 0, 1) := by decide +kernel
theorem dX12_vote_2 : decode cX12_vote 2 = .ok (.iload_n 1, 1) := by decide +kernel
theorem dX12_vote_3 : decode cX12_vote 3 = .ok (.iload_n 2, 1) := by decide +kernel
theorem dX12_vote_4 : decode cX12_vote 4 = .ok (.invokevirtual 140, 3) := by decide +kernel
theorem dX12_vote_7 : decode cX12_vote 7 = .ok (.ifCond .ne 7, 3) := by decide +kernel
theorem dX12_vote_10 : decode cX12_vote 10 = .ok (.iconst 1, 1) := by decide +kernel
theorem dX12_vote_11 : decode cX12_vote 11 = .ok (.goto 15, 3) := by decide +kernel
theorem dX12_vote_26 : decode cX12_vote 26 = .ok (.invokevirtual 110, 3) := by decide +kernel
theorem dX12_vote_29 : decode cX12_vote 29 = .ok (.ifCond .eq 5, 3) := by decide +kernel
theorem dX12_vote_32 : decode cX12_vote 32 = .ok (.iconst 0, 1) := by decide +kernel
theorem dX12_vote_33 : decode cX12_vote 33 = .ok (.ireturn, 1) := by decide +kernel
set_option maxHeartbeats 4000000 in
set_option maxRecDepth 100000 in
theorem c_M_vote (l : Launch) (hst : l.stackTraces = false) (tE : Nat) (adK adV : Nat → Nat) (dC : Nat → ClassId) (dI : Nat → Nat → Nat) (m0 : Nat) (lr : Nat) (ld : Nat) (o1 : Nat) (o2 : Nat) (o3 : Nat) (o4 : Nat) (o5 : Nat) (o6 : Nat) (o7 : Nat) (o8 : Nat) (o9 : Nat) (o10 : Nat) (t1 : Nat) (t2 : Nat) (t3 : Nat) (t4 : Nat) (t5 : Nat) (th : Int32) (p1 : Int32) (p2 : Int32) (sz : Nat) : Met l yX12_vote (Cond.code yX12_vote cX12_vote 5 (some .boolean) :: tw) ({ frames := 3, cells := 0, slots := 0, locals := 63 }) (va_Pc [.ref m0, .int p1, .int p2] (pre tE adK adV (dC, dI) [(m0, .inr (12, [.int th, .ref lr, .ref ld, .ref o1, .int (-1), .int (-1), .int 0, .ref o2, .ref o3, .ref o4, .ref o5, .ref o6, .ref o7, .ref o8, .ref o9, .ref o10, .int 0, .int 0, .null, .int 0, .int 45, .ref t1, .ref t2, .ref t3, .ref t4, .ref t5])), (lr, .inr (14, [.int 0, .ref tE, .int 0])), (ld, .inr (14, [.int 0, .ref tE, .int 0]))] [] sz)) (va_Qi (fun (r : Int32) (_ : Unit) => True) (fun (_ : Unit) (t : State) => va_P (dC, dI) cls [(m0, .inr (12, [.int 1, .ref lr, .ref ld, .ref o1, .int (-1), .int (-1), .int 0, .ref o2, .ref o3, .ref o4, .ref o5, .ref o6, .ref o7, .ref o8, .ref o9, .ref o10, .int 0, .int 0, .null, .int 0, .int 45, .ref t1, .ref t2, .ref t3, .ref t4, .ref t5]))] t.heap ∧ va_K (dC, dI) cls [] t ∧ va_D (va_A [(m0, .inr (12, [.int th, .ref lr, .ref ld, .ref o1, .int (-1), .int (-1), .int 0, .ref o2, .ref o3, .ref o4, .ref o5, .ref o6, .ref o7, .ref o8, .ref o9, .ref o10, .int 0, .int 0, .null, .int 0, .int 45, .ref t1, .ref t2, .ref t3, .ref t4, .ref t5])), (lr, .inr (14, [.int 0, .ref tE, .int 0])), (ld, .inr (14, [.int 0, .ref tE, .int 0]))] sz) [(m0, .inr (12, [.int 1, .ref lr, .ref ld, .ref o1, .int (-1), .int (-1), .int 0, .ref o2, .ref o3, .ref o4, .ref o5, .ref o6, .ref o7, .ref o8, .ref o9, .ref o10, .int 0, .int 0, .null, .int 0, .int 45, .ref t1, .ref t2, .ref t3, .ref t4, .ref t5]))]) (va_A [(m0, .inr (12, [.int th, .ref lr, .ref ld, .ref o1, .int (-1), .int (-1), .int 0, .ref o2, .ref o3, .ref o4, .ref o5, .ref o6, .ref o7, .ref o8, .ref o9, .ref o10, .int 0, .int 0, .null, .int 0, .int 45, .ref t1, .ref t2, .ref t3, .ref t4, .ref t5])), (lr, .inr (14, [.int 0, .ref tE, .int 0])), (ld, .inr (14, [.int 0, .ref tE, .int 0]))] sz)) 0 0 (va_A [(m0, .inr (12, [.int th, .ref lr, .ref ld, .ref o1, .int (-1), .int (-1), .int 0, .ref o2, .ref o3, .ref o4, .ref o5, .ref o6, .ref o7, .ref o8, .ref o9, .ref o10, .int 0, .int 0, .null, .int 0, .int 45, .ref t1, .ref t2, .ref t3, .ref t4, .ref t5])), (lr, .inr (14, [.int 0, .ref tE, .int 0])), (ld, .inr (14, [.int 0, .ref tE, .int 0]))] sz) := by
  refine Met.ofW (cc := cX12_vote) (maxL := 5) (ret := (some .boolean)) (by decide) rfl ?_
  intro p e s m args below meth c s₁ B hml hv
  obtain ⟨rfl, hsz, hP, hK, hD0, ham⟩ := hv
  have hx := B.exec
  have hb := B.bytes
  have hr := B.returns
  have hts := atoms_spec B.pre
  have hq : ∀ w ∈ tw, w.before _ s = true := fun w h => hts w (List.mem_cons_of_mem _ h)
  have hown : s.vm.findClass RX12 = some m.cls := findClass_of_methodNamed B.named
  have hlocks := B.notSynchronized
  subst hsz
  have hD := hD0.self (sz := s.heap.size)
  generalize hAe : va_A [(m0, .inr (12, [.int th, .ref lr, .ref ld, .ref o1, .int (-1), .int (-1), .int 0, .ref o2, .ref o3, .ref o4, .ref o5, .ref o6, .ref o7, .ref o8, .ref o9, .ref o10, .int 0, .int 0, .null, .int 0, .int 45, .ref t1, .ref t2, .ref t3, .ref t4, .ref t5])), (lr, .inr (14, [.int 0, .ref tE, .int 0])), (ld, .inr (14, [.int 0, .ref tE, .int 0]))] s.heap.size = A at hD ham ⊢
  have hA : ∀ q : Nat, s.heap.size ≤ q → A q := fun q h => by rw [← hAe]; exact Or.inr h
  have hS : va_S A s.heap s.heap [] := va_S.rf
  have hP : va_P (dC, dI) cls [(m0, .inr (12, [.int th, .ref lr, .ref ld, .ref o1, .int (-1), .int (-1), .int 0, .ref o2, .ref o3, .ref o4, .ref o5, .ref o6, .ref o7, .ref o8, .ref o9, .ref o10, .int 0, .int 0, .null, .int 0, .int 45, .ref t1, .ref t2, .ref t3, .ref t4, .ref t5])), (lr, .inr (14, [.int 0, .ref tE, .int 0])), (ld, .inr (14, [.int 0, .ref tE, .int 0]))] s.heap := hP
  have hl := lv_entry ([.ref m0, .int p1, .int p2]) (n := 5) (Nat.le_of_ble_eq_true rfl)
  rw [lg_entry_eq]
  generalize (lg_sl ([.ref m0, .int p1, .int p2]) ++ List.replicate (5 - (lg_sl ([.ref m0, .int p1, .int p2])).length) Slot.unset).toArray = ls at hl ⊢
  have hl : lv_has ls 5 [(0, .ref m0), (1, .int p1), (2, .int p2)] := hl
  refine lv_aload_n hx hb dX12_vote_0 rfl (lv_at hl 0 rfl) ?_
  refine lv_aload_n hx hb dX12_vote_1 rfl (lv_at hl 0 rfl) ?_
  refine lv_iload_n hx hb dX12_vote_2 rfl (lv_at hl 1 rfl) ?_
  refine lv_iload_n hx hb dX12_vote_3 rfl (lv_at hl 2 rfl) ?_
  have hPc := hP.sub (ws' := [(m0, .inr (12, [.int th, .ref lr, .ref ld, .ref o1, .int (-1), .int (-1), .int 0, .ref o2, .ref o3, .ref o4, .ref o5, .ref o6, .ref o7, .ref o8, .ref o9, .ref o10, .int 0, .int 0, .null, .int 0, .int 45, .ref t1, .ref t2, .ref t3, .ref t4, .ref t5])), (ld, .inr (14, [.int 0, .ref tE, .int 0]))]) [0, 2] rfl
  have hKc := hK.sub (tys' := []) [] rfl
  refine va_calli (va_runV (As := [.int p1, .int p2]) (rest := [.ref m0]) ⟨hx, hb, hml, hown, hq⟩ (c_areSeats l hst tE adK adV dC dI m0 lr ld o1 o2 o3 o4 o5 o6 o7 o8 o9 o10 t1 t2 t3 t4 t5 th p1 p2 s.heap.size) (tcV 2 hq q_1650 q_12 q_1647 q_1649 qp_26 rfl rfl (by decide +kernel) ⟨Nat.le_of_ble_eq_true rfl, Nat.le_of_ble_eq_true rfl⟩) (preR.V (va_recv hK hP (ci := 12) (q0 := 0) rfl rfl) (preR.of hPc hKc ham hS hA)) rfl rfl hl.1 rfl (lv_room (Nat.le_of_ble_eq_true rfl)) dX12_vote_4 ⟨Nat.le_of_ble_eq_true rfl, Nat.le_of_ble_eq_true rfl⟩) hS (fun q _ h => hA q (Nat.le_trans hS.1 h)) (fun q h => hA q (Nat.le_trans hS.1 h)) (fun r_1 u t H1 locs ht hvm hw hB hz1 hk1 hS => ?_)
  have hP : va_P (dC, dI) cls [(m0, .inr (12, [.int th, .ref lr, .ref ld, .ref o1, .int (-1), .int (-1), .int 0, .ref o2, .ref o3, .ref o4, .ref o5, .ref o6, .ref o7, .ref o8, .ref o9, .ref o10, .int 0, .int 0, .null, .int 0, .int 45, .ref t1, .ref t2, .ref t3, .ref t4, .ref t5])), (lr, .inr (14, [.int 0, .ref tE, .int 0])), (ld, .inr (14, [.int 0, .ref tE, .int 0]))] H1 := ro_keep hP hk1
  generalize H1 = H at hP hS ⊢
  refine W.widen (k := 0) (n := 0) (Nat.le_of_ble_eq_true rfl) (Nat.le_of_ble_eq_true rfl) ?_
  have hw : r_1 = 0 := hw
  subst hw
  refine lv_if_ne (tgt := 14) hx hb dX12_vote_7 (by decide) (fun c_2 => ?_) (fun c_2 => ?_)
  · exact absurd c_2 (by decide)
  · refine lv_iconst (v := 1) hx hb dX12_vote_10 (by decide) ?_
    refine lv_goto (tgt := 26) hx hb dX12_vote_11 (by decide) ?_
    have hPc := hP.sub (ws' := [(m0, .inr (12, [.int th, .ref lr, .ref ld, .ref o1, .int (-1), .int (-1), .int 0, .ref o2, .ref o3, .ref o4, .ref o5, .ref o6, .ref o7, .ref o8, .ref o9, .ref o10, .int 0, .int 0, .null, .int 0, .int 45, .ref t1, .ref t2, .ref t3, .ref t4, .ref t5]))]) [0] rfl
    have hKc := hK.sub (tys' := []) [] rfl
    have hDc := hD.sub (ws' := [(m0, .inr (12, [.int th, .ref lr, .ref ld, .ref o1, .int (-1), .int (-1), .int 0, .ref o2, .ref o3, .ref o4, .ref o5, .ref o6, .ref o7, .ref o8, .ref o9, .ref o10, .int 0, .int 0, .null, .int 0, .int 45, .ref t1, .ref t2, .ref t3, .ref t4, .ref t5]))]) [0] (by decide) rfl
    have hFc := va_free (wc := [(m0, .inr (12, [.int th, .ref lr, .ref ld, .ref o1, .int (-1), .int (-1), .int 0, .ref o2, .ref o3, .ref o4, .ref o5, .ref o6, .ref o7, .ref o8, .ref o9, .ref o10, .int 0, .int 0, .null, .int 0, .int 45, .ref t1, .ref t2, .ref t3, .ref t4, .ref t5]))]) hD hS hA [0] rfl
    refine va_calli (va_runV (As := [.int 1]) (rest := []) ⟨hx, hb, hml, hown, hq⟩ (c_isWrong1 l hst tE adK adV dC dI m0 lr ld o1 o2 o3 o4 o5 o6 o7 o8 o9 o10 t1 t2 t3 t4 t5 th H.size) (tcV 1 hq q_1488 q_12 q_1485 q_1487 qp_22 rfl rfl (by decide +kernel) ⟨Nat.le_of_ble_eq_true rfl, Nat.le_of_ble_eq_true rfl⟩) (pre.V (va_recv hK hP (ci := 12) (q0 := 0) rfl rfl) (pre.of hPc hDc hKc ham hS hFc)) rfl rfl hl.1 rfl (lv_room (Nat.le_of_ble_eq_true rfl)) dX12_vote_26 ⟨Nat.le_of_ble_eq_true rfl, Nat.le_of_ble_eq_true rfl⟩) hS (fun q _ h => hFc q h) hFc (fun r_3 u t H1 locs ht hvm hw hB hz1 hk1 hS => ?_)
    obtain ⟨hP1, hK1, hD1⟩ := hB
    rw [ht] at hP1
    have hK1 := va_K.moved hvm.symm hK1
    obtain ⟨hP, hD⟩ := va_join (wr := [(lr, .inr (14, [.int 0, .ref tE, .int 0])), (ld, .inr (14, [.int 0, .ref tE, .int 0]))]) (w1 := [(m0, .inr (12, [.int 1, .ref lr, .ref ld, .ref o1, .int (-1), .int (-1), .int 0, .ref o2, .ref o3, .ref o4, .ref o5, .ref o6, .ref o7, .ref o8, .ref o9, .ref o10, .int 0, .int 0, .null, .int 0, .int 45, .ref t1, .ref t2, .ref t3, .ref t4, .ref t5]))]) (wc := [(m0, .inr (12, [.int th, .ref lr, .ref ld, .ref o1, .int (-1), .int (-1), .int 0, .ref o2, .ref o3, .ref o4, .ref o5, .ref o6, .ref o7, .ref o8, .ref o9, .ref o10, .int 0, .int 0, .null, .int 0, .int 45, .ref t1, .ref t2, .ref t3, .ref t4, .ref t5]))]) hP hD [0] [1, 2] rfl rfl (by decide) (by decide) hk1 hFc hP1 hD1
    have hK := (hK.sub (tys' := []) [] rfl).app hK1
    generalize H1 = H at hP hS ⊢
    have hP : va_P (dC, dI) cls [(lr, .inr (14, [.int 0, .ref tE, .int 0])), (ld, .inr (14, [.int 0, .ref tE, .int 0])), (m0, .inr (12, [.int 1, .ref lr, .ref ld, .ref o1, .int (-1), .int (-1), .int 0, .ref o2, .ref o3, .ref o4, .ref o5, .ref o6, .ref o7, .ref o8, .ref o9, .ref o10, .int 0, .int 0, .null, .int 0, .int 45, .ref t1, .ref t2, .ref t3, .ref t4, .ref t5]))] H := hP
    have hD : va_D A [(lr, .inr (14, [.int 0, .ref tE, .int 0])), (ld, .inr (14, [.int 0, .ref tE, .int 0])), (m0, .inr (12, [.int 1, .ref lr, .ref ld, .ref o1, .int (-1), .int (-1), .int 0, .ref o2, .ref o3, .ref o4, .ref o5, .ref o6, .ref o7, .ref o8, .ref o9, .ref o10, .int 0, .int 0, .null, .int 0, .int 45, .ref t1, .ref t2, .ref t3, .ref t4, .ref t5]))] := hD
    have hK : va_K (dC, dI) cls [] s := hK
    refine W.widen (k := 0) (n := 0) (Nat.le_of_ble_eq_true rfl) (Nat.le_of_ble_eq_true rfl) ?_
    have hw : r_3 = 1 := hw
    subst hw
    refine lv_if_eq (tgt := 34) hx hb dX12_vote_29 (by decide) (fun c_4 => ?_) (fun c_4 => ?_)
    · exact absurd c_4 (by decide)
    · refine lv_iconst (v := 0) hx hb dX12_vote_32 (by decide) ?_
      refine W.widen (k := 0) (n := 0) (Nat.le_of_ble_eq_true rfl) (Nat.le_of_ble_eq_true rfl) ?_
      have hP9 := hP.sub (ws' := [(m0, .inr (12, [.int 1, .ref lr, .ref ld, .ref o1, .int (-1), .int (-1), .int 0, .ref o2, .ref o3, .ref o4, .ref o5, .ref o6, .ref o7, .ref o8, .ref o9, .ref o10, .int 0, .int 0, .null, .int 0, .int 45, .ref t1, .ref t2, .ref t3, .ref t4, .ref t5]))]) [2] rfl
      have hD9 := hD.sub (ws' := [(m0, .inr (12, [.int 1, .ref lr, .ref ld, .ref o1, .int (-1), .int (-1), .int 0, .ref o2, .ref o3, .ref o4, .ref o5, .ref o6, .ref o7, .ref o8, .ref o9, .ref o10, .int 0, .int 0, .null, .int 0, .int 45, .ref t1, .ref t2, .ref t3, .ref t4, .ref t5]))]) [2] (by decide) rfl
      have hK9 := hK.sub (tys' := []) [] rfl
      exact W.zret (v := 0) hx hb hr (by decide) (fun t ht hW => ⟨⟨0, (), rfl, trivial, ⟨by rw [ht]; exact hP9, va_K.moved hW.alike hK9, hD9⟩⟩, hS.F ht⟩) hS.2.2 dX12_vote_33
abbrev cX12_votes : ByteArray := prog_13_method_31_code
def yX12_votes : MethodName := ⟨RX12, "votes", "(I)I"⟩
theorem dX12_votes_0 : decode cX12_votes 0 = .ok (.aload_n 0, 1) := by decide +kernel
theorem dX12_votes_1 : decode cX12_votes 1 = .ok (.aload_n 0, 1) := by decide +kernel
theorem dX12_votes_2 : decode cX12_votes 2 = .ok (.getfield 26, 3) := by decide +kernel
theorem dX12_votes_5 : decode cX12_votes 5 = .ok (.iload_n 1, 1) := by decide +kernel
theorem dX12_votes_6 : decode cX12_votes 6 = .ok (.invokestatic 123, 3) := by decide +kernel
theorem dX12_votes_9 : decode cX12_votes 9 = .ok (.ifCond .ne 7, 3) := by decide +kernel
theorem dX12_votes_12 : decode cX12_votes 12 = .ok (.iconst 1, 1) := by decide +kernel
theorem dX12_votes_13 : decode cX12_votes 13 = .ok (.goto 26, 3) := by decide +kernel
theorem dX12_votes_39 : decode cX12_votes 39 = .ok (.invokevirtual 110, 3) := by decide +kernel
theorem dX12_votes_42 : decode cX12_votes 42 = .ok (.ifCond .eq 7, 3) := by decide +kernel
theorem dX12_votes_45 : decode cX12_votes 45 = .ok (.iconst 0, 1) := by decide +kernel
theorem dX12_votes_46 : decode cX12_votes 46 = .ok (.goto 8, 3) := by decide +kernel
theorem dX12_votes_54 : decode cX12_votes 54 = .ok (.ireturn, 1) := by decide +kernel
set_option maxHeartbeats 4000000 in
set_option maxRecDepth 100000 in
theorem c_M_votes (l : Launch) (hst : l.stackTraces = false) (tE : Nat) (adK adV : Nat → Nat) (dC : Nat → ClassId) (dI : Nat → Nat → Nat) (m0 : Nat) (lr : Nat) (ld : Nat) (o1 : Nat) (o2 : Nat) (o3 : Nat) (o4 : Nat) (o5 : Nat) (o6 : Nat) (o7 : Nat) (o8 : Nat) (o9 : Nat) (o10 : Nat) (t1 : Nat) (t2 : Nat) (t3 : Nat) (t4 : Nat) (t5 : Nat) (th : Int32) (p1 : Int32) (sz : Nat) : Met l yX12_votes (Cond.code yX12_votes cX12_votes 2 (some .int) :: tw) ({ frames := 2, cells := 0, slots := 0, locals := 41 }) (va_Pc [.ref m0, .int p1] (pre tE adK adV (dC, dI) [(m0, .inr (12, [.int th, .ref lr, .ref ld, .ref o1, .int (-1), .int (-1), .int 0, .ref o2, .ref o3, .ref o4, .ref o5, .ref o6, .ref o7, .ref o8, .ref o9, .ref o10, .int 0, .int 0, .null, .int 0, .int 45, .ref t1, .ref t2, .ref t3, .ref t4, .ref t5])), (lr, .inr (14, [.int 0, .ref tE, .int 0])), (ld, .inr (14, [.int 0, .ref tE, .int 0]))] [] sz)) (va_Qi (fun (r : Int32) (_ : Unit) => True) (fun (_ : Unit) (t : State) => va_P (dC, dI) cls [(m0, .inr (12, [.int 1, .ref lr, .ref ld, .ref o1, .int (-1), .int (-1), .int 0, .ref o2, .ref o3, .ref o4, .ref o5, .ref o6, .ref o7, .ref o8, .ref o9, .ref o10, .int 0, .int 0, .null, .int 0, .int 45, .ref t1, .ref t2, .ref t3, .ref t4, .ref t5]))] t.heap ∧ va_K (dC, dI) cls [] t ∧ va_D (va_A [(m0, .inr (12, [.int th, .ref lr, .ref ld, .ref o1, .int (-1), .int (-1), .int 0, .ref o2, .ref o3, .ref o4, .ref o5, .ref o6, .ref o7, .ref o8, .ref o9, .ref o10, .int 0, .int 0, .null, .int 0, .int 45, .ref t1, .ref t2, .ref t3, .ref t4, .ref t5])), (lr, .inr (14, [.int 0, .ref tE, .int 0])), (ld, .inr (14, [.int 0, .ref tE, .int 0]))] sz) [(m0, .inr (12, [.int 1, .ref lr, .ref ld, .ref o1, .int (-1), .int (-1), .int 0, .ref o2, .ref o3, .ref o4, .ref o5, .ref o6, .ref o7, .ref o8, .ref o9, .ref o10, .int 0, .int 0, .null, .int 0, .int 45, .ref t1, .ref t2, .ref t3, .ref t4, .ref t5]))]) (va_A [(m0, .inr (12, [.int th, .ref lr, .ref ld, .ref o1, .int (-1), .int (-1), .int 0, .ref o2, .ref o3, .ref o4, .ref o5, .ref o6, .ref o7, .ref o8, .ref o9, .ref o10, .int 0, .int 0, .null, .int 0, .int 45, .ref t1, .ref t2, .ref t3, .ref t4, .ref t5])), (lr, .inr (14, [.int 0, .ref tE, .int 0])), (ld, .inr (14, [.int 0, .ref tE, .int 0]))] sz)) 0 0 (va_A [(m0, .inr (12, [.int th, .ref lr, .ref ld, .ref o1, .int (-1), .int (-1), .int 0, .ref o2, .ref o3, .ref o4, .ref o5, .ref o6, .ref o7, .ref o8, .ref o9, .ref o10, .int 0, .int 0, .null, .int 0, .int 45, .ref t1, .ref t2, .ref t3, .ref t4, .ref t5])), (lr, .inr (14, [.int 0, .ref tE, .int 0])), (ld, .inr (14, [.int 0, .ref tE, .int 0]))] sz) := by
  refine Met.ofW (cc := cX12_votes) (maxL := 2) (ret := (some .int)) (by decide) rfl ?_
  intro p e s m args below meth c s₁ B hml hv
  obtain ⟨rfl, hsz, hP, hK, hD0, ham⟩ := hv
  have hx := B.exec
  have hb := B.bytes
  have hr := B.returns
  have hts := atoms_spec B.pre
  have hq : ∀ w ∈ tw, w.before _ s = true := fun w h => hts w (List.mem_cons_of_mem _ h)
  have hown : s.vm.findClass RX12 = some m.cls := findClass_of_methodNamed B.named
  have hlocks := B.notSynchronized
  subst hsz
  have hD := hD0.self (sz := s.heap.size)
  generalize hAe : va_A [(m0, .inr (12, [.int th, .ref lr, .ref ld, .ref o1, .int (-1), .int (-1), .int 0, .ref o2, .ref o3, .ref o4, .ref o5, .ref o6, .ref o7, .ref o8, .ref o9, .ref o10, .int 0, .int 0, .null, .int 0, .int 45, .ref t1, .ref t2, .ref t3, .ref t4, .ref t5])), (lr, .inr (14, [.int 0, .ref tE, .int 0])), (ld, .inr (14, [.int 0, .ref tE, .int 0]))] s.heap.size = A at hD ham ⊢
  have hA : ∀ q : Nat, s.heap.size ≤ q → A q := fun q h => by rw [← hAe]; exact Or.inr h
  have hS : va_S A s.heap s.heap [] := va_S.rf
  have hP : va_P (dC, dI) cls [(m0, .inr (12, [.int th, .ref lr, .ref ld, .ref o1, .int (-1), .int (-1), .int 0, .ref o2, .ref o3, .ref o4, .ref o5, .ref o6, .ref o7, .ref o8, .ref o9, .ref o10, .int 0, .int 0, .null, .int 0, .int 45, .ref t1, .ref t2, .ref t3, .ref t4, .ref t5])), (lr, .inr (14, [.int 0, .ref tE, .int 0])), (ld, .inr (14, [.int 0, .ref tE, .int 0]))] s.heap := hP
  have hl := lv_entry ([.ref m0, .int p1]) (n := 2) (Nat.le_of_ble_eq_true rfl)
  rw [lg_entry_eq]
  generalize (lg_sl ([.ref m0, .int p1]) ++ List.replicate (2 - (lg_sl ([.ref m0, .int p1])).length) Slot.unset).toArray = ls at hl ⊢
  have hl : lv_has ls 2 [(0, .ref m0), (1, .int p1)] := hl
  refine lv_aload_n hx hb dX12_votes_0 rfl (lv_at hl 0 rfl) ?_
  refine lv_aload_n hx hb dX12_votes_1 rfl (lv_at hl 0 rfl) ?_
  refine va_get (D := (dC, dI)) (ci := 12) (v := .ref ld) (C := RX12) (T := TX12) (N := 26) hx hb hq i_X12 hown hK hP 0 rfl rfl 2 (by decide) (hq _ q_1306) (fun _ h9 => h9) rfl dX12_votes_2 ?_
  refine lv_iload_n hx hb dX12_votes_5 rfl (lv_at hl 1 rfl) ?_
  have hPc := hP.sub (ws' := [(ld, .inr (14, [.int 0, .ref tE, .int 0]))]) [2] rfl
  have hKc := hK.sub (tys' := []) [] rfl
  refine va_calli (va_runS (As := [.ref ld, .int p1]) (rest := [.ref m0]) ⟨hx, hb, hml, hown, hq⟩ (c_isOf l hst tE adK adV dC dI ld p1 s.heap.size) (tcS 2 hq q_1599 q_12 q_1597 q_1598 rfl rfl (by decide +kernel) ⟨Nat.le_of_ble_eq_true rfl, Nat.le_of_ble_eq_true rfl⟩) (preR.S (preR.of hPc hKc ham hS hA)) rfl rfl hl.1 rfl (lv_room (Nat.le_of_ble_eq_true rfl)) dX12_votes_6 ⟨Nat.le_of_ble_eq_true rfl, Nat.le_of_ble_eq_true rfl⟩) hS (fun q _ h => hA q (Nat.le_trans hS.1 h)) (fun q h => hA q (Nat.le_trans hS.1 h)) (fun r_1 u t H1 locs ht hvm hw hB hz1 hk1 hS => ?_)
  have hP : va_P (dC, dI) cls [(m0, .inr (12, [.int th, .ref lr, .ref ld, .ref o1, .int (-1), .int (-1), .int 0, .ref o2, .ref o3, .ref o4, .ref o5, .ref o6, .ref o7, .ref o8, .ref o9, .ref o10, .int 0, .int 0, .null, .int 0, .int 45, .ref t1, .ref t2, .ref t3, .ref t4, .ref t5])), (lr, .inr (14, [.int 0, .ref tE, .int 0])), (ld, .inr (14, [.int 0, .ref tE, .int 0]))] H1 := ro_keep hP hk1
  generalize H1 = H at hP hS ⊢
  refine W.widen (k := 0) (n := 0) (Nat.le_of_ble_eq_true rfl) (Nat.le_of_ble_eq_true rfl) ?_
  have hw : r_1 = 0 := hw
  subst hw
  refine lv_if_ne (tgt := 16) hx hb dX12_votes_9 (by decide) (fun c_2 => ?_) (fun c_2 => ?_)
  · exact absurd c_2 (by decide)
  · refine lv_iconst (v := 1) hx hb dX12_votes_12 (by decide) ?_
    refine lv_goto (tgt := 39) hx hb dX12_votes_13 (by decide) ?_
    have hPc := hP.sub (ws' := [(m0, .inr (12, [.int th, .ref lr, .ref ld, .ref o1, .int (-1), .int (-1), .int 0, .ref o2, .ref o3, .ref o4, .ref o5, .ref o6, .ref o7, .ref o8, .ref o9, .ref o10, .int 0, .int 0, .null, .int 0, .int 45, .ref t1, .ref t2, .ref t3, .ref t4, .ref t5]))]) [0] rfl
    have hKc := hK.sub (tys' := []) [] rfl
    have hDc := hD.sub (ws' := [(m0, .inr (12, [.int th, .ref lr, .ref ld, .ref o1, .int (-1), .int (-1), .int 0, .ref o2, .ref o3, .ref o4, .ref o5, .ref o6, .ref o7, .ref o8, .ref o9, .ref o10, .int 0, .int 0, .null, .int 0, .int 45, .ref t1, .ref t2, .ref t3, .ref t4, .ref t5]))]) [0] (by decide) rfl
    have hFc := va_free (wc := [(m0, .inr (12, [.int th, .ref lr, .ref ld, .ref o1, .int (-1), .int (-1), .int 0, .ref o2, .ref o3, .ref o4, .ref o5, .ref o6, .ref o7, .ref o8, .ref o9, .ref o10, .int 0, .int 0, .null, .int 0, .int 45, .ref t1, .ref t2, .ref t3, .ref t4, .ref t5]))]) hD hS hA [0] rfl
    refine va_calli (va_runV (As := [.int 1]) (rest := []) ⟨hx, hb, hml, hown, hq⟩ (c_isWrong1 l hst tE adK adV dC dI m0 lr ld o1 o2 o3 o4 o5 o6 o7 o8 o9 o10 t1 t2 t3 t4 t5 th H.size) (tcV 1 hq q_1488 q_12 q_1485 q_1487 qp_22 rfl rfl (by decide +kernel) ⟨Nat.le_of_ble_eq_true rfl, Nat.le_of_ble_eq_true rfl⟩) (pre.V (va_recv hK hP (ci := 12) (q0 := 0) rfl rfl) (pre.of hPc hDc hKc ham hS hFc)) rfl rfl hl.1 rfl (lv_room (Nat.le_of_ble_eq_true rfl)) dX12_votes_39 ⟨Nat.le_of_ble_eq_true rfl, Nat.le_of_ble_eq_true rfl⟩) hS (fun q _ h => hFc q h) hFc (fun r_3 u t H1 locs ht hvm hw hB hz1 hk1 hS => ?_)
    obtain ⟨hP1, hK1, hD1⟩ := hB
    rw [ht] at hP1
    have hK1 := va_K.moved hvm.symm hK1
    obtain ⟨hP, hD⟩ := va_join (wr := [(lr, .inr (14, [.int 0, .ref tE, .int 0])), (ld, .inr (14, [.int 0, .ref tE, .int 0]))]) (w1 := [(m0, .inr (12, [.int 1, .ref lr, .ref ld, .ref o1, .int (-1), .int (-1), .int 0, .ref o2, .ref o3, .ref o4, .ref o5, .ref o6, .ref o7, .ref o8, .ref o9, .ref o10, .int 0, .int 0, .null, .int 0, .int 45, .ref t1, .ref t2, .ref t3, .ref t4, .ref t5]))]) (wc := [(m0, .inr (12, [.int th, .ref lr, .ref ld, .ref o1, .int (-1), .int (-1), .int 0, .ref o2, .ref o3, .ref o4, .ref o5, .ref o6, .ref o7, .ref o8, .ref o9, .ref o10, .int 0, .int 0, .null, .int 0, .int 45, .ref t1, .ref t2, .ref t3, .ref t4, .ref t5]))]) hP hD [0] [1, 2] rfl rfl (by decide) (by decide) hk1 hFc hP1 hD1
    have hK := (hK.sub (tys' := []) [] rfl).app hK1
    generalize H1 = H at hP hS ⊢
    have hP : va_P (dC, dI) cls [(lr, .inr (14, [.int 0, .ref tE, .int 0])), (ld, .inr (14, [.int 0, .ref tE, .int 0])), (m0, .inr (12, [.int 1, .ref lr, .ref ld, .ref o1, .int (-1), .int (-1), .int 0, .ref o2, .ref o3, .ref o4, .ref o5, .ref o6, .ref o7, .ref o8, .ref o9, .ref o10, .int 0, .int 0, .null, .int 0, .int 45, .ref t1, .ref t2, .ref t3, .ref t4, .ref t5]))] H := hP
    have hD : va_D A [(lr, .inr (14, [.int 0, .ref tE, .int 0])), (ld, .inr (14, [.int 0, .ref tE, .int 0])), (m0, .inr (12, [.int 1, .ref lr, .ref ld, .ref o1, .int (-1), .int (-1), .int 0, .ref o2, .ref o3, .ref o4, .ref o5, .ref o6, .ref o7, .ref o8, .ref o9, .ref o10, .int 0, .int 0, .null, .int 0, .int 45, .ref t1, .ref t2, .ref t3, .ref t4, .ref t5]))] := hD
    have hK : va_K (dC, dI) cls [] s := hK
    refine W.widen (k := 0) (n := 0) (Nat.le_of_ble_eq_true rfl) (Nat.le_of_ble_eq_true rfl) ?_
    have hw : r_3 = 1 := hw
    subst hw
    refine lv_if_eq (tgt := 49) hx hb dX12_votes_42 (by decide) (fun c_4 => ?_) (fun c_4 => ?_)
    · exact absurd c_4 (by decide)
    · refine lv_iconst (v := 0) hx hb dX12_votes_45 (by decide) ?_
      refine lv_goto (tgt := 54) hx hb dX12_votes_46 (by decide) ?_
      refine W.widen (k := 0) (n := 0) (Nat.le_of_ble_eq_true rfl) (Nat.le_of_ble_eq_true rfl) ?_
      have hP9 := hP.sub (ws' := [(m0, .inr (12, [.int 1, .ref lr, .ref ld, .ref o1, .int (-1), .int (-1), .int 0, .ref o2, .ref o3, .ref o4, .ref o5, .ref o6, .ref o7, .ref o8, .ref o9, .ref o10, .int 0, .int 0, .null, .int 0, .int 45, .ref t1, .ref t2, .ref t3, .ref t4, .ref t5]))]) [2] rfl
      have hD9 := hD.sub (ws' := [(m0, .inr (12, [.int 1, .ref lr, .ref ld, .ref o1, .int (-1), .int (-1), .int 0, .ref o2, .ref o3, .ref o4, .ref o5, .ref o6, .ref o7, .ref o8, .ref o9, .ref o10, .int 0, .int 0, .null, .int 0, .int 45, .ref t1, .ref t2, .ref t3, .ref t4, .ref t5]))]) [2] (by decide) rfl
      have hK9 := hK.sub (tys' := []) [] rfl
      exact W.iret (v := 0) hx hb hr (fun t ht hW => ⟨⟨0, (), rfl, trivial, ⟨by rw [ht]; exact hP9, va_K.moved hW.alike hK9, hD9⟩⟩, hS.F ht⟩) hS.2.2 dX12_votes_54
abbrev cX12_dusk : ByteArray := prog_13_method_32_code
def yX12_dusk : MethodName := ⟨RX12, "dusk", "()I"⟩
theorem dX12_dusk_0 : decode cX12_dusk 0 = .ok (.aload_n 0, 1) := by decide +kernel
theorem dX12_dusk_1 : decode cX12_dusk 1 = .ok (.aload_n 0, 1) := by decide +kernel
theorem dX12_dusk_2 : decode cX12_dusk 2 = .ok (.invokevirtual 154, 3) := by decide +kernel
theorem dX12_dusk_5 : decode cX12_dusk 5 = .ok (.ifCond .ne 7, 3) := by decide +kernel
theorem dX12_dusk_8 : decode cX12_dusk 8 = .ok (.iconst 1, 1) := by decide +kernel
theorem dX12_dusk_9 : decode cX12_dusk 9 = .ok (.goto 15, 3) := by decide +kernel
theorem dX12_dusk_24 : decode cX12_dusk 24 = .ok (.invokevirtual 110, 3) := by decide +kernel
theorem dX12_dusk_27 : decode cX12_dusk 27 = .ok (.ifCond .eq 5, 3) := by decide +kernel
theorem dX12_dusk_30 : decode cX12_dusk 30 = .ok (.iconst 0, 1) := by decide +kernel
theorem dX12_dusk_31 : decode cX12_dusk 31 = .ok (.ireturn, 1) := by decide +kernel
set_option maxHeartbeats 4000000 in
set_option maxRecDepth 100000 in
theorem c_M_dusk (l : Launch) (hst : l.stackTraces = false) (tE : Nat) (adK adV : Nat → Nat) (dC : Nat → ClassId) (dI : Nat → Nat → Nat) (m0 : Nat) (lr : Nat) (ld : Nat) (o1 : Nat) (o2 : Nat) (o3 : Nat) (o4 : Nat) (o5 : Nat) (o6 : Nat) (o7 : Nat) (o8 : Nat) (o9 : Nat) (o10 : Nat) (t1 : Nat) (t2 : Nat) (t3 : Nat) (t4 : Nat) (t5 : Nat) (th : Int32) (sz : Nat) : Met l yX12_dusk (Cond.code yX12_dusk cX12_dusk 5 (some .int) :: tw) ({ frames := 1, cells := 0, slots := 0, locals := 21 }) (va_Pc [.ref m0] (pre tE adK adV (dC, dI) [(m0, .inr (12, [.int th, .ref lr, .ref ld, .ref o1, .int (-1), .int (-1), .int 0, .ref o2, .ref o3, .ref o4, .ref o5, .ref o6, .ref o7, .ref o8, .ref o9, .ref o10, .int 0, .int 0, .null, .int 0, .int 45, .ref t1, .ref t2, .ref t3, .ref t4, .ref t5])), (lr, .inr (14, [.int 0, .ref tE, .int 0])), (ld, .inr (14, [.int 0, .ref tE, .int 0]))] [] sz)) (va_Qi (fun (r : Int32) (_ : Unit) => True) (fun (_ : Unit) (t : State) => va_P (dC, dI) cls [(m0, .inr (12, [.int 1, .ref lr, .ref ld, .ref o1, .int (-1), .int (-1), .int 0, .ref o2, .ref o3, .ref o4, .ref o5, .ref o6, .ref o7, .ref o8, .ref o9, .ref o10, .int 0, .int 0, .null, .int 0, .int 45, .ref t1, .ref t2, .ref t3, .ref t4, .ref t5]))] t.heap ∧ va_K (dC, dI) cls [] t ∧ va_D (va_A [(m0, .inr (12, [.int th, .ref lr, .ref ld, .ref o1, .int (-1), .int (-1), .int 0, .ref o2, .ref o3, .ref o4, .ref o5, .ref o6, .ref o7, .ref o8, .ref o9, .ref o10, .int 0, .int 0, .null, .int 0, .int 45, .ref t1, .ref t2, .ref t3, .ref t4, .ref t5])), (lr, .inr (14, [.int 0, .ref tE, .int 0])), (ld, .inr (14, [.int 0, .ref tE, .int 0]))] sz) [(m0, .inr (12, [.int 1, .ref lr, .ref ld, .ref o1, .int (-1), .int (-1), .int 0, .ref o2, .ref o3, .ref o4, .ref o5, .ref o6, .ref o7, .ref o8, .ref o9, .ref o10, .int 0, .int 0, .null, .int 0, .int 45, .ref t1, .ref t2, .ref t3, .ref t4, .ref t5]))]) (va_A [(m0, .inr (12, [.int th, .ref lr, .ref ld, .ref o1, .int (-1), .int (-1), .int 0, .ref o2, .ref o3, .ref o4, .ref o5, .ref o6, .ref o7, .ref o8, .ref o9, .ref o10, .int 0, .int 0, .null, .int 0, .int 45, .ref t1, .ref t2, .ref t3, .ref t4, .ref t5])), (lr, .inr (14, [.int 0, .ref tE, .int 0])), (ld, .inr (14, [.int 0, .ref tE, .int 0]))] sz)) 0 0 (va_A [(m0, .inr (12, [.int th, .ref lr, .ref ld, .ref o1, .int (-1), .int (-1), .int 0, .ref o2, .ref o3, .ref o4, .ref o5, .ref o6, .ref o7, .ref o8, .ref o9, .ref o10, .int 0, .int 0, .null, .int 0, .int 45, .ref t1, .ref t2, .ref t3, .ref t4, .ref t5])), (lr, .inr (14, [.int 0, .ref tE, .int 0])), (ld, .inr (14, [.int 0, .ref tE, .int 0]))] sz) := by
  refine Met.ofW (cc := cX12_dusk) (maxL := 5) (ret := (some .int)) (by decide) rfl ?_
  intro p e s m args below meth c s₁ B hml hv
  obtain ⟨rfl, hsz, hP, hK, hD0, ham⟩ := hv
  have hx := B.exec
  have hb := B.bytes
  have hr := B.returns
  have hts := atoms_spec B.pre
  have hq : ∀ w ∈ tw, w.before _ s = true := fun w h => hts w (List.mem_cons_of_mem _ h)
  have hown : s.vm.findClass RX12 = some m.cls := findClass_of_methodNamed B.named
  have hlocks := B.notSynchronized
  subst hsz
  have hD := hD0.self (sz := s.heap.size)
  generalize hAe : va_A [(m0, .inr (12, [.int th, .ref lr, .ref ld, .ref o1, .int (-1), .int (-1), .int 0, .ref o2, .ref o3, .ref o4, .ref o5, .ref o6, .ref o7, .ref o8, .ref o9, .ref o10, .int 0, .int 0, .null, .int 0, .int 45, .ref t1, .ref t2, .ref t3, .ref t4, .ref t5])), (lr, .inr (14, [.int 0, .ref tE, .int 0])), (ld, .inr (14, [.int 0, .ref tE, .int 0]))] s.heap.size = A at hD ham ⊢
  have hA : ∀ q : Nat, s.heap.size ≤ q → A q := fun q h => by rw [← hAe]; exact Or.inr h
  have hS : va_S A s.heap s.heap [] := va_S.rf
  have hP : va_P (dC, dI) cls [(m0, .inr (12, [.int th, .ref lr, .ref ld, .ref o1, .int (-1), .int (-1), .int 0, .ref o2, .ref o3, .ref o4, .ref o5, .ref o6, .ref o7, .ref o8, .ref o9, .ref o10, .int 0, .int 0, .null, .int 0, .int 45, .ref t1, .ref t2, .ref t3, .ref t4, .ref t5])), (lr, .inr (14, [.int 0, .ref tE, .int 0])), (ld, .inr (14, [.int 0, .ref tE, .int 0]))] s.heap := hP
  have hl := lv_entry ([.ref m0]) (n := 5) (Nat.le_of_ble_eq_true rfl)
  rw [lg_entry_eq]
  generalize (lg_sl ([.ref m0]) ++ List.replicate (5 - (lg_sl ([.ref m0])).length) Slot.unset).toArray = ls at hl ⊢
  have hl : lv_has ls 5 [(0, .ref m0)] := hl
  refine lv_aload_n hx hb dX12_dusk_0 rfl (lv_at hl 0 rfl) ?_
  refine lv_aload_n hx hb dX12_dusk_1 rfl (lv_at hl 0 rfl) ?_
  have hPc := hP.sub (ws' := [(m0, .inr (12, [.int th, .ref lr, .ref ld, .ref o1, .int (-1), .int (-1), .int 0, .ref o2, .ref o3, .ref o4, .ref o5, .ref o6, .ref o7, .ref o8, .ref o9, .ref o10, .int 0, .int 0, .null, .int 0, .int 45, .ref t1, .ref t2, .ref t3, .ref t4, .ref t5]))]) [0] rfl
  have hKc := hK.sub (tys' := []) [] rfl
  refine va_calli (va_runV (As := []) (rest := [.ref m0]) ⟨hx, hb, hml, hown, hq⟩ (c_isOn l hst tE adK adV dC dI m0 lr ld o1 o2 o3 o4 o5 o6 o7 o8 o9 o10 t1 t2 t3 t4 t5 th s.heap.size) (tcV 0 hq q_1678 q_12 q_1675 q_1677 qp_29 rfl rfl (by decide +kernel) ⟨Nat.le_of_ble_eq_true rfl, Nat.le_of_ble_eq_true rfl⟩) (preR.V (va_recv hK hP (ci := 12) (q0 := 0) rfl rfl) (preR.of hPc hKc ham hS hA)) rfl rfl hl.1 rfl (lv_room (Nat.le_of_ble_eq_true rfl)) dX12_dusk_2 ⟨Nat.le_of_ble_eq_true rfl, Nat.le_of_ble_eq_true rfl⟩) hS (fun q _ h => hA q (Nat.le_trans hS.1 h)) (fun q h => hA q (Nat.le_trans hS.1 h)) (fun r_1 u t H1 locs ht hvm hw hB hz1 hk1 hS => ?_)
  have hP : va_P (dC, dI) cls [(m0, .inr (12, [.int th, .ref lr, .ref ld, .ref o1, .int (-1), .int (-1), .int 0, .ref o2, .ref o3, .ref o4, .ref o5, .ref o6, .ref o7, .ref o8, .ref o9, .ref o10, .int 0, .int 0, .null, .int 0, .int 45, .ref t1, .ref t2, .ref t3, .ref t4, .ref t5])), (lr, .inr (14, [.int 0, .ref tE, .int 0])), (ld, .inr (14, [.int 0, .ref tE, .int 0]))] H1 := ro_keep hP hk1
  generalize H1 = H at hP hS ⊢
  refine W.widen (k := 0) (n := 0) (Nat.le_of_ble_eq_true rfl) (Nat.le_of_ble_eq_true rfl) ?_
  have hw : r_1 = 0 := hw
  subst hw
  refine lv_if_ne (tgt := 12) hx hb dX12_dusk_5 (by decide) (fun c_2 => ?_) (fun c_2 => ?_)
  · exact absurd c_2 (by decide)
  · refine lv_iconst (v := 1) hx hb dX12_dusk_8 (by decide) ?_
    refine lv_goto (tgt := 24) hx hb dX12_dusk_9 (by decide) ?_
    have hPc := hP.sub (ws' := [(m0, .inr (12, [.int th, .ref lr, .ref ld, .ref o1, .int (-1), .int (-1), .int 0, .ref o2, .ref o3, .ref o4, .ref o5, .ref o6, .ref o7, .ref o8, .ref o9, .ref o10, .int 0, .int 0, .null, .int 0, .int 45, .ref t1, .ref t2, .ref t3, .ref t4, .ref t5]))]) [0] rfl
    have hKc := hK.sub (tys' := []) [] rfl
    have hDc := hD.sub (ws' := [(m0, .inr (12, [.int th, .ref lr, .ref ld, .ref o1, .int (-1), .int (-1), .int 0, .ref o2, .ref o3, .ref o4, .ref o5, .ref o6, .ref o7, .ref o8, .ref o9, .ref o10, .int 0, .int 0, .null, .int 0, .int 45, .ref t1, .ref t2, .ref t3, .ref t4, .ref t5]))]) [0] (by decide) rfl
    have hFc := va_free (wc := [(m0, .inr (12, [.int th, .ref lr, .ref ld, .ref o1, .int (-1), .int (-1), .int 0, .ref o2, .ref o3, .ref o4, .ref o5, .ref o6, .ref o7, .ref o8, .ref o9, .ref o10, .int 0, .int 0, .null, .int 0, .int 45, .ref t1, .ref t2, .ref t3, .ref t4, .ref t5]))]) hD hS hA [0] rfl
    refine va_calli (va_runV (As := [.int 1]) (rest := []) ⟨hx, hb, hml, hown, hq⟩ (c_isWrong1 l hst tE adK adV dC dI m0 lr ld o1 o2 o3 o4 o5 o6 o7 o8 o9 o10 t1 t2 t3 t4 t5 th H.size) (tcV 1 hq q_1488 q_12 q_1485 q_1487 qp_22 rfl rfl (by decide +kernel) ⟨Nat.le_of_ble_eq_true rfl, Nat.le_of_ble_eq_true rfl⟩) (pre.V (va_recv hK hP (ci := 12) (q0 := 0) rfl rfl) (pre.of hPc hDc hKc ham hS hFc)) rfl rfl hl.1 rfl (lv_room (Nat.le_of_ble_eq_true rfl)) dX12_dusk_24 ⟨Nat.le_of_ble_eq_true rfl, Nat.le_of_ble_eq_true rfl⟩) hS (fun q _ h => hFc q h) hFc (fun r_3 u t H1 locs ht hvm hw hB hz1 hk1 hS => ?_)
    obtain ⟨hP1, hK1, hD1⟩ := hB
    rw [ht] at hP1
    have hK1 := va_K.moved hvm.symm hK1
    obtain ⟨hP, hD⟩ := va_join (wr := [(lr, .inr (14, [.int 0, .ref tE, .int 0])), (ld, .inr (14, [.int 0, .ref tE, .int 0]))]) (w1 := [(m0, .inr (12, [.int 1, .ref lr, .ref ld, .ref o1, .int (-1), .int (-1), .int 0, .ref o2, .ref o3, .ref o4, .ref o5, .ref o6, .ref o7, .ref o8, .ref o9, .ref o10, .int 0, .int 0, .null, .int 0, .int 45, .ref t1, .ref t2, .ref t3, .ref t4, .ref t5]))]) (wc := [(m0, .inr (12, [.int th, .ref lr, .ref ld, .ref o1, .int (-1), .int (-1), .int 0, .ref o2, .ref o3, .ref o4, .ref o5, .ref o6, .ref o7, .ref o8, .ref o9, .ref o10, .int 0, .int 0, .null, .int 0, .int 45, .ref t1, .ref t2, .ref t3, .ref t4, .ref t5]))]) hP hD [0] [1, 2] rfl rfl (by decide) (by decide) hk1 hFc hP1 hD1
    have hK := (hK.sub (tys' := []) [] rfl).app hK1
    generalize H1 = H at hP hS ⊢
    have hP : va_P (dC, dI) cls [(lr, .inr (14, [.int 0, .ref tE, .int 0])), (ld, .inr (14, [.int 0, .ref tE, .int 0])), (m0, .inr (12, [.int 1, .ref lr, .ref ld, .ref o1, .int (-1), .int (-1), .int 0, .ref o2, .ref o3, .ref o4, .ref o5, .ref o6, .ref o7, .ref o8, .ref o9, .ref o10, .int 0, .int 0, .null, .int 0, .int 45, .ref t1, .ref t2, .ref t3, .ref t4, .ref t5]))] H := hP
    have hD : va_D A [(lr, .inr (14, [.int 0, .ref tE, .int 0])), (ld, .inr (14, [.int 0, .ref tE, .int 0])), (m0, .inr (12, [.int 1, .ref lr, .ref ld, .ref o1, .int (-1), .int (-1), .int 0, .ref o2, .ref o3, .ref o4, .ref o5, .ref o6, .ref o7, .ref o8, .ref o9, .ref o10, .int 0, .int 0, .null, .int 0, .int 45, .ref t1, .ref t2, .ref t3, .ref t4, .ref t5]))] := hD
    have hK : va_K (dC, dI) cls [] s := hK
    refine W.widen (k := 0) (n := 0) (Nat.le_of_ble_eq_true rfl) (Nat.le_of_ble_eq_true rfl) ?_
    have hw : r_3 = 1 := hw
    subst hw
    refine lv_if_eq (tgt := 32) hx hb dX12_dusk_27 (by decide) (fun c_4 => ?_) (fun c_4 => ?_)
    · exact absurd c_4 (by decide)
    · refine lv_iconst (v := 0) hx hb dX12_dusk_30 (by decide) ?_
      refine W.widen (k := 0) (n := 0) (Nat.le_of_ble_eq_true rfl) (Nat.le_of_ble_eq_true rfl) ?_
      have hP9 := hP.sub (ws' := [(m0, .inr (12, [.int 1, .ref lr, .ref ld, .ref o1, .int (-1), .int (-1), .int 0, .ref o2, .ref o3, .ref o4, .ref o5, .ref o6, .ref o7, .ref o8, .ref o9, .ref o10, .int 0, .int 0, .null, .int 0, .int 45, .ref t1, .ref t2, .ref t3, .ref t4, .ref t5]))]) [2] rfl
      have hD9 := hD.sub (ws' := [(m0, .inr (12, [.int 1, .ref lr, .ref ld, .ref o1, .int (-1), .int (-1), .int 0, .ref o2, .ref o3, .ref o4, .ref o5, .ref o6, .ref o7, .ref o8, .ref o9, .ref o10, .int 0, .int 0, .null, .int 0, .int 45, .ref t1, .ref t2, .ref t3, .ref t4, .ref t5]))]) [2] (by decide) rfl
      have hK9 := hK.sub (tys' := []) [] rfl
      exact W.iret (v := 0) hx hb hr (fun t ht hW => ⟨⟨0, (), rfl, trivial, ⟨by rw [ht]; exact hP9, va_K.moved hW.alike hK9, hD9⟩⟩, hS.F ht⟩) hS.2.2 dX12_dusk_31
abbrev cX12_isNight : ByteArray := prog_13_method_33_code
def yX12_isNight : MethodName := ⟨RX12, "isNight", "()Z"⟩
theorem dX12_isNight_0 : decode cX12_isNight 0 = .ok (.aload_n 0, 1) := by decide +kernel
theorem dX12_isNight_1 : decode cX12_isNight 1 = .ok (.aload_n 0, 1) := by decide +kernel
theorem dX12_isNight_2 : decode cX12_isNight 2 = .ok (.invokevirtual 154, 3) := by decide +kernel
theorem dX12_isNight_5 : decode cX12_isNight 5 = .ok (.ifCond .eq 7, 3) := by decide +kernel
theorem dX12_isNight_12 : decode cX12_isNight 12 = .ok (.iconst 1, 1) := by decide +kernel
theorem dX12_isNight_13 : decode cX12_isNight 13 = .ok (.invokevirtual 110, 3) := by decide +kernel
theorem dX12_isNight_16 : decode cX12_isNight 16 = .ok (.ifCond .ne 14, 3) := by decide +kernel
theorem dX12_isNight_30 : decode cX12_isNight 30 = .ok (.iconst 0, 1) := by decide +kernel
theorem dX12_isNight_31 : decode cX12_isNight 31 = .ok (.ireturn, 1) := by decide +kernel
set_option maxHeartbeats 4000000 in
set_option maxRecDepth 100000 in
theorem c_M_isNight (l : Launch) (hst : l.stackTraces = false) (tE : Nat) (adK adV : Nat → Nat) (dC : Nat → ClassId) (dI : Nat → Nat → Nat) (m0 : Nat) (lr : Nat) (ld : Nat) (o1 : Nat) (o2 : Nat) (o3 : Nat) (o4 : Nat) (o5 : Nat) (o6 : Nat) (o7 : Nat) (o8 : Nat) (o9 : Nat) (o10 : Nat) (t1 : Nat) (t2 : Nat) (t3 : Nat) (t4 : Nat) (t5 : Nat) (th : Int32) (sz : Nat) : Met l yX12_isNight (Cond.code yX12_isNight cX12_isNight 1 (some .boolean) :: tw) ({ frames := 1, cells := 0, slots := 0, locals := 21 }) (va_Pc [.ref m0] (pre tE adK adV (dC, dI) [(m0, .inr (12, [.int th, .ref lr, .ref ld, .ref o1, .int (-1), .int (-1), .int 0, .ref o2, .ref o3, .ref o4, .ref o5, .ref o6, .ref o7, .ref o8, .ref o9, .ref o10, .int 0, .int 0, .null, .int 0, .int 45, .ref t1, .ref t2, .ref t3, .ref t4, .ref t5])), (lr, .inr (14, [.int 0, .ref tE, .int 0])), (ld, .inr (14, [.int 0, .ref tE, .int 0]))] [] sz)) (va_Qi (fun (r : Int32) (_ : Unit) => True) (fun (_ : Unit) (t : State) => va_P (dC, dI) cls [(m0, .inr (12, [.int 1, .ref lr, .ref ld, .ref o1, .int (-1), .int (-1), .int 0, .ref o2, .ref o3, .ref o4, .ref o5, .ref o6, .ref o7, .ref o8, .ref o9, .ref o10, .int 0, .int 0, .null, .int 0, .int 45, .ref t1, .ref t2, .ref t3, .ref t4, .ref t5]))] t.heap ∧ va_K (dC, dI) cls [] t ∧ va_D (va_A [(m0, .inr (12, [.int th, .ref lr, .ref ld, .ref o1, .int (-1), .int (-1), .int 0, .ref o2, .ref o3, .ref o4, .ref o5, .ref o6, .ref o7, .ref o8, .ref o9, .ref o10, .int 0, .int 0, .null, .int 0, .int 45, .ref t1, .ref t2, .ref t3, .ref t4, .ref t5])), (lr, .inr (14, [.int 0, .ref tE, .int 0])), (ld, .inr (14, [.int 0, .ref tE, .int 0]))] sz) [(m0, .inr (12, [.int 1, .ref lr, .ref ld, .ref o1, .int (-1), .int (-1), .int 0, .ref o2, .ref o3, .ref o4, .ref o5, .ref o6, .ref o7, .ref o8, .ref o9, .ref o10, .int 0, .int 0, .null, .int 0, .int 45, .ref t1, .ref t2, .ref t3, .ref t4, .ref t5]))]) (va_A [(m0, .inr (12, [.int th, .ref lr, .ref ld, .ref o1, .int (-1), .int (-1), .int 0, .ref o2, .ref o3, .ref o4, .ref o5, .ref o6, .ref o7, .ref o8, .ref o9, .ref o10, .int 0, .int 0, .null, .int 0, .int 45, .ref t1, .ref t2, .ref t3, .ref t4, .ref t5])), (lr, .inr (14, [.int 0, .ref tE, .int 0])), (ld, .inr (14, [.int 0, .ref tE, .int 0]))] sz)) 0 0 (va_A [(m0, .inr (12, [.int th, .ref lr, .ref ld, .ref o1, .int (-1), .int (-1), .int 0, .ref o2, .ref o3, .ref o4, .ref o5, .ref o6, .ref o7, .ref o8, .ref o9, .ref o10, .int 0, .int 0, .null, .int 0, .int 45, .ref t1, .ref t2, .ref t3, .ref t4, .ref t5])), (lr, .inr (14, [.int 0, .ref tE, .int 0])), (ld, .inr (14, [.int 0, .ref tE, .int 0]))] sz) := by
  refine Met.ofW (cc := cX12_isNight) (maxL := 1) (ret := (some .boolean)) (by decide) rfl ?_
  intro p e s m args below meth c s₁ B hml hv
  obtain ⟨rfl, hsz, hP, hK, hD0, ham⟩ := hv
  have hx := B.exec
  have hb := B.bytes
  have hr := B.returns
  have hts := atoms_spec B.pre
  have hq : ∀ w ∈ tw, w.before _ s = true := fun w h => hts w (List.mem_cons_of_mem _ h)
  have hown : s.vm.findClass RX12 = some m.cls := findClass_of_methodNamed B.named
  have hlocks := B.notSynchronized
  subst hsz
  have hD := hD0.self (sz := s.heap.size)
  generalize hAe : va_A [(m0, .inr (12, [.int th, .ref lr, .ref ld, .ref o1, .int (-1), .int (-1), .int 0, .ref o2, .ref o3, .ref o4, .ref o5, .ref o6, .ref o7, .ref o8, .ref o9, .ref o10, .int 0, .int 0, .null, .int 0, .int 45, .ref t1, .ref t2, .ref t3, .ref t4, .ref t5])), (lr, .inr (14, [.int 0, .ref tE, .int 0])), (ld, .inr (14, [.int 0, .ref tE, .int 0]))] s.heap.size = A at hD ham ⊢
  have hA : ∀ q : Nat, s.heap.size ≤ q → A q := fun q h => by rw [← hAe]; exact Or.inr h
  have hS : va_S A s.heap s.heap [] := va_S.rf
  have hP : va_P (dC, dI) cls [(m0, .inr (12, [.int th, .ref lr, .ref ld, .ref o1, .int (-1), .int (-1), .int 0, .ref o2, .ref o3, .ref o4, .ref o5, .ref o6, .ref o7, .ref o8, .ref o9, .ref o10, .int 0, .int 0, .null, .int 0, .int 45, .ref t1, .ref t2, .ref t3, .ref t4, .ref t5])), (lr, .inr (14, [.int 0, .ref tE, .int 0])), (ld, .inr (14, [.int 0, .ref tE, .int 0]))] s.heap := hP
  have hl := lv_entry ([.ref m0]) (n := 1) (Nat.le_of_ble_eq_true rfl)
  rw [lg_entry_eq]
  generalize (lg_sl ([.ref m0]) ++ List.replicate (1 - (lg_sl ([.ref m0])).length) Slot.unset).toArray = ls at hl ⊢
  have hl : lv_has ls 1 [(0, .ref m0)] := hl
  refine lv_aload_n hx hb dX12_isNight_0 rfl (lv_at hl 0 rfl) ?_
  refine lv_aload_n hx hb dX12_isNight_1 rfl (lv_at hl 0 rfl) ?_
  have hPc := hP.sub (ws' := [(m0, .inr (12, [.int th, .ref lr, .ref ld, .ref o1, .int (-1), .int (-1), .int 0, .ref o2, .ref o3, .ref o4, .ref o5, .ref o6, .ref o7, .ref o8, .ref o9, .ref o10, .int 0, .int 0, .null, .int 0, .int 45, .ref t1, .ref t2, .ref t3, .ref t4, .ref t5]))]) [0] rfl
  have hKc := hK.sub (tys' := []) [] rfl
  refine va_calli (va_runV (As := []) (rest := [.ref m0]) ⟨hx, hb, hml, hown, hq⟩ (c_isOn l hst tE adK adV dC dI m0 lr ld o1 o2 o3 o4 o5 o6 o7 o8 o9 o10 t1 t2 t3 t4 t5 th s.heap.size) (tcV 0 hq q_1678 q_12 q_1675 q_1677 qp_29 rfl rfl (by decide +kernel) ⟨Nat.le_of_ble_eq_true rfl, Nat.le_of_ble_eq_true rfl⟩) (preR.V (va_recv hK hP (ci := 12) (q0 := 0) rfl rfl) (preR.of hPc hKc ham hS hA)) rfl rfl hl.1 rfl (lv_room (Nat.le_of_ble_eq_true rfl)) dX12_isNight_2 ⟨Nat.le_of_ble_eq_true rfl, Nat.le_of_ble_eq_true rfl⟩) hS (fun q _ h => hA q (Nat.le_trans hS.1 h)) (fun q h => hA q (Nat.le_trans hS.1 h)) (fun r_1 u t H1 locs ht hvm hw hB hz1 hk1 hS => ?_)
  have hP : va_P (dC, dI) cls [(m0, .inr (12, [.int th, .ref lr, .ref ld, .ref o1, .int (-1), .int (-1), .int 0, .ref o2, .ref o3, .ref o4, .ref o5, .ref o6, .ref o7, .ref o8, .ref o9, .ref o10, .int 0, .int 0, .null, .int 0, .int 45, .ref t1, .ref t2, .ref t3, .ref t4, .ref t5])), (lr, .inr (14, [.int 0, .ref tE, .int 0])), (ld, .inr (14, [.int 0, .ref tE, .int 0]))] H1 := ro_keep hP hk1
  generalize H1 = H at hP hS ⊢
  refine W.widen (k := 0) (n := 0) (Nat.le_of_ble_eq_true rfl) (Nat.le_of_ble_eq_true rfl) ?_
  have hw : r_1 = 0 := hw
  subst hw
  refine lv_if_eq (tgt := 12) hx hb dX12_isNight_5 (by decide) (fun c_2 => ?_) (fun c_2 => ?_)
  · refine lv_iconst (v := 1) hx hb dX12_isNight_12 (by decide) ?_
    have hPc := hP.sub (ws' := [(m0, .inr (12, [.int th, .ref lr, .ref ld, .ref o1, .int (-1), .int (-1), .int 0, .ref o2, .ref o3, .ref o4, .ref o5, .ref o6, .ref o7, .ref o8, .ref o9, .ref o10, .int 0, .int 0, .null, .int 0, .int 45, .ref t1, .ref t2, .ref t3, .ref t4, .ref t5]))]) [0] rfl
    have hKc := hK.sub (tys' := []) [] rfl
    have hDc := hD.sub (ws' := [(m0, .inr (12, [.int th, .ref lr, .ref ld, .ref o1, .int (-1), .int (-1), .int 0, .ref o2, .ref o3, .ref o4, .ref o5, .ref o6, .ref o7, .ref o8, .ref o9, .ref o10, .int 0, .int 0, .null, .int 0, .int 45, .ref t1, .ref t2, .ref t3, .ref t4, .ref t5]))]) [0] (by decide) rfl
    have hFc := va_free (wc := [(m0, .inr (12, [.int th, .ref lr, .ref ld, .ref o1, .int (-1), .int (-1), .int 0, .ref o2, .ref o3, .ref o4, .ref o5, .ref o6, .ref o7, .ref o8, .ref o9, .ref o10, .int 0, .int 0, .null, .int 0, .int 45, .ref t1, .ref t2, .ref t3, .ref t4, .ref t5]))]) hD hS hA [0] rfl
    refine va_calli (va_runV (As := [.int 1]) (rest := []) ⟨hx, hb, hml, hown, hq⟩ (c_isWrong1 l hst tE adK adV dC dI m0 lr ld o1 o2 o3 o4 o5 o6 o7 o8 o9 o10 t1 t2 t3 t4 t5 th H.size) (tcV 1 hq q_1488 q_12 q_1485 q_1487 qp_22 rfl rfl (by decide +kernel) ⟨Nat.le_of_ble_eq_true rfl, Nat.le_of_ble_eq_true rfl⟩) (pre.V (va_recv hK hP (ci := 12) (q0 := 0) rfl rfl) (pre.of hPc hDc hKc ham hS hFc)) rfl rfl hl.1 rfl (lv_room (Nat.le_of_ble_eq_true rfl)) dX12_isNight_13 ⟨Nat.le_of_ble_eq_true rfl, Nat.le_of_ble_eq_true rfl⟩) hS (fun q _ h => hFc q h) hFc (fun r_3 u t H1 locs ht hvm hw hB hz1 hk1 hS => ?_)
    obtain ⟨hP1, hK1, hD1⟩ := hB
    rw [ht] at hP1
    have hK1 := va_K.moved hvm.symm hK1
    obtain ⟨hP, hD⟩ := va_join (wr := [(lr, .inr (14, [.int 0, .ref tE, .int 0])), (ld, .inr (14, [.int 0, .ref tE, .int 0]))]) (w1 := [(m0, .inr (12, [.int 1, .ref lr, .ref ld, .ref o1, .int (-1), .int (-1), .int 0, .ref o2, .ref o3, .ref o4, .ref o5, .ref o6, .ref o7, .ref o8, .ref o9, .ref o10, .int 0, .int 0, .null, .int 0, .int 45, .ref t1, .ref t2, .ref t3, .ref t4, .ref t5]))]) (wc := [(m0, .inr (12, [.int th, .ref lr, .ref ld, .ref o1, .int (-1), .int (-1), .int 0, .ref o2, .ref o3, .ref o4, .ref o5, .ref o6, .ref o7, .ref o8, .ref o9, .ref o10, .int 0, .int 0, .null, .int 0, .int 45, .ref t1, .ref t2, .ref t3, .ref t4, .ref t5]))]) hP hD [0] [1, 2] rfl rfl (by decide) (by decide) hk1 hFc hP1 hD1
    have hK := (hK.sub (tys' := []) [] rfl).app hK1
    generalize H1 = H at hP hS ⊢
    have hP : va_P (dC, dI) cls [(lr, .inr (14, [.int 0, .ref tE, .int 0])), (ld, .inr (14, [.int 0, .ref tE, .int 0])), (m0, .inr (12, [.int 1, .ref lr, .ref ld, .ref o1, .int (-1), .int (-1), .int 0, .ref o2, .ref o3, .ref o4, .ref o5, .ref o6, .ref o7, .ref o8, .ref o9, .ref o10, .int 0, .int 0, .null, .int 0, .int 45, .ref t1, .ref t2, .ref t3, .ref t4, .ref t5]))] H := hP
    have hD : va_D A [(lr, .inr (14, [.int 0, .ref tE, .int 0])), (ld, .inr (14, [.int 0, .ref tE, .int 0])), (m0, .inr (12, [.int 1, .ref lr, .ref ld, .ref o1, .int (-1), .int (-1), .int 0, .ref o2, .ref o3, .ref o4, .ref o5, .ref o6, .ref o7, .ref o8, .ref o9, .ref o10, .int 0, .int 0, .null, .int 0, .int 45, .ref t1, .ref t2, .ref t3, .ref t4, .ref t5]))] := hD
    have hK : va_K (dC, dI) cls [] s := hK
    refine W.widen (k := 0) (n := 0) (Nat.le_of_ble_eq_true rfl) (Nat.le_of_ble_eq_true rfl) ?_
    have hw : r_3 = 1 := hw
    subst hw
    refine lv_if_ne (tgt := 30) hx hb dX12_isNight_16 (by decide) (fun c_4 => ?_) (fun c_4 => ?_)
    · refine lv_iconst (v := 0) hx hb dX12_isNight_30 (by decide) ?_
      refine W.widen (k := 0) (n := 0) (Nat.le_of_ble_eq_true rfl) (Nat.le_of_ble_eq_true rfl) ?_
      have hP9 := hP.sub (ws' := [(m0, .inr (12, [.int 1, .ref lr, .ref ld, .ref o1, .int (-1), .int (-1), .int 0, .ref o2, .ref o3, .ref o4, .ref o5, .ref o6, .ref o7, .ref o8, .ref o9, .ref o10, .int 0, .int 0, .null, .int 0, .int 45, .ref t1, .ref t2, .ref t3, .ref t4, .ref t5]))]) [2] rfl
      have hD9 := hD.sub (ws' := [(m0, .inr (12, [.int 1, .ref lr, .ref ld, .ref o1, .int (-1), .int (-1), .int 0, .ref o2, .ref o3, .ref o4, .ref o5, .ref o6, .ref o7, .ref o8, .ref o9, .ref o10, .int 0, .int 0, .null, .int 0, .int 45, .ref t1, .ref t2, .ref t3, .ref t4, .ref t5]))]) [2] (by decide) rfl
      have hK9 := hK.sub (tys' := []) [] rfl
      exact W.zret (v := 0) hx hb hr (by decide) (fun t ht hW => ⟨⟨0, (), rfl, trivial, ⟨by rw [ht]; exact hP9, va_K.moved hW.alike hK9, hD9⟩⟩, hS.F ht⟩) hS.2.2 dX12_isNight_31
    · exact absurd c_4 (by decide)
  · exact absurd c_2 (by decide)
abbrev cX12_number : ByteArray := prog_13_method_34_code
def yX12_number : MethodName := ⟨RX12, "number", "()I"⟩
theorem dX12_number_0 : decode cX12_number 0 = .ok (.aload_n 0, 1) := by decide +kernel
theorem dX12_number_1 : decode cX12_number 1 = .ok (.aload_n 0, 1) := by decide +kernel
theorem dX12_number_2 : decode cX12_number 2 = .ok (.getfield 106, 3) := by decide +kernel
theorem dX12_number_5 : decode cX12_number 5 = .ok (.ifCond .eq 7, 3) := by decide +kernel
theorem dX12_number_12 : decode cX12_number 12 = .ok (.iconst 1, 1) := by decide +kernel
theorem dX12_number_13 : decode cX12_number 13 = .ok (.invokevirtual 110, 3) := by decide +kernel
theorem dX12_number_16 : decode cX12_number 16 = .ok (.ifCond .eq 7, 3) := by decide +kernel
theorem dX12_number_19 : decode cX12_number 19 = .ok (.iconst 0, 1) := by decide +kernel
theorem dX12_number_20 : decode cX12_number 20 = .ok (.goto 7, 3) := by decide +kernel
theorem dX12_number_27 : decode cX12_number 27 = .ok (.ireturn, 1) := by decide +kernel
set_option maxHeartbeats 4000000 in
set_option maxRecDepth 100000 in
theorem c_M_number (l : Launch) (hst : l.stackTraces = false) (tE : Nat) (adK adV : Nat → Nat) (dC : Nat → ClassId) (dI : Nat → Nat → Nat) (m0 : Nat) (lr : Nat) (ld : Nat) (o1 : Nat) (o2 : Nat) (o3 : Nat) (o4 : Nat) (o5 : Nat) (o6 : Nat) (o7 : Nat) (o8 : Nat) (o9 : Nat) (o10 : Nat) (t1 : Nat) (t2 : Nat) (t3 : Nat) (t4 : Nat) (t5 : Nat) (th : Int32) (sz : Nat) : Met l yX12_number (Cond.code yX12_number cX12_number 1 (some .int) :: tw) ({ frames := 1, cells := 0, slots := 0, locals := 21 }) (va_Pc [.ref m0] (pre tE adK adV (dC, dI) [(m0, .inr (12, [.int th, .ref lr, .ref ld, .ref o1, .int (-1), .int (-1), .int 0, .ref o2, .ref o3, .ref o4, .ref o5, .ref o6, .ref o7, .ref o8, .ref o9, .ref o10, .int 0, .int 0, .null, .int 0, .int 45, .ref t1, .ref t2, .ref t3, .ref t4, .ref t5])), (lr, .inr (14, [.int 0, .ref tE, .int 0])), (ld, .inr (14, [.int 0, .ref tE, .int 0]))] [] sz)) (va_Qi (fun (r : Int32) (_ : Unit) => True) (fun (_ : Unit) (t : State) => va_P (dC, dI) cls [(m0, .inr (12, [.int 1, .ref lr, .ref ld, .ref o1, .int (-1), .int (-1), .int 0, .ref o2, .ref o3, .ref o4, .ref o5, .ref o6, .ref o7, .ref o8, .ref o9, .ref o10, .int 0, .int 0, .null, .int 0, .int 45, .ref t1, .ref t2, .ref t3, .ref t4, .ref t5]))] t.heap ∧ va_K (dC, dI) cls [] t ∧ va_D (va_A [(m0, .inr (12, [.int th, .ref lr, .ref ld, .ref o1, .int (-1), .int (-1), .int 0, .ref o2, .ref o3, .ref o4, .ref o5, .ref o6, .ref o7, .ref o8, .ref o9, .ref o10, .int 0, .int 0, .null, .int 0, .int 45, .ref t1, .ref t2, .ref t3, .ref t4, .ref t5])), (lr, .inr (14, [.int 0, .ref tE, .int 0])), (ld, .inr (14, [.int 0, .ref tE, .int 0]))] sz) [(m0, .inr (12, [.int 1, .ref lr, .ref ld, .ref o1, .int (-1), .int (-1), .int 0, .ref o2, .ref o3, .ref o4, .ref o5, .ref o6, .ref o7, .ref o8, .ref o9, .ref o10, .int 0, .int 0, .null, .int 0, .int 45, .ref t1, .ref t2, .ref t3, .ref t4, .ref t5]))]) (va_A [(m0, .inr (12, [.int th, .ref lr, .ref ld, .ref o1, .int (-1), .int (-1), .int 0, .ref o2, .ref o3, .ref o4, .ref o5, .ref o6, .ref o7, .ref o8, .ref o9, .ref o10, .int 0, .int 0, .null, .int 0, .int 45, .ref t1, .ref t2, .ref t3, .ref t4, .ref t5])), (lr, .inr (14, [.int 0, .ref tE, .int 0])), (ld, .inr (14, [.int 0, .ref tE, .int 0]))] sz)) 0 0 (va_A [(m0, .inr (12, [.int th, .ref lr, .ref ld, .ref o1, .int (-1), .int (-1), .int 0, .ref o2, .ref o3, .ref o4, .ref o5, .ref o6, .ref o7, .ref o8, .ref o9, .ref o10, .int 0, .int 0, .null, .int 0, .int 45, .ref t1, .ref t2, .ref t3, .ref t4, .ref t5])), (lr, .inr (14, [.int 0, .ref tE, .int 0])), (ld, .inr (14, [.int 0, .ref tE, .int 0]))] sz) := by
  refine Met.ofW (cc := cX12_number) (maxL := 1) (ret := (some .int)) (by decide) rfl ?_
  intro p e s m args below meth c s₁ B hml hv
  obtain ⟨rfl, hsz, hP, hK, hD0, ham⟩ := hv
  have hx := B.exec
  have hb := B.bytes
  have hr := B.returns
  have hts := atoms_spec B.pre
  have hq : ∀ w ∈ tw, w.before _ s = true := fun w h => hts w (List.mem_cons_of_mem _ h)
  have hown : s.vm.findClass RX12 = some m.cls := findClass_of_methodNamed B.named
  have hlocks := B.notSynchronized
  subst hsz
  have hD := hD0.self (sz := s.heap.size)
  generalize hAe : va_A [(m0, .inr (12, [.int th, .ref lr, .ref ld, .ref o1, .int (-1), .int (-1), .int 0, .ref o2, .ref o3, .ref o4, .ref o5, .ref o6, .ref o7, .ref o8, .ref o9, .ref o10, .int 0, .int 0, .null, .int 0, .int 45, .ref t1, .ref t2, .ref t3, .ref t4, .ref t5])), (lr, .inr (14, [.int 0, .ref tE, .int 0])), (ld, .inr (14, [.int 0, .ref tE, .int 0]))] s.heap.size = A at hD ham ⊢
  have hA : ∀ q : Nat, s.heap.size ≤ q → A q := fun q h => by rw [← hAe]; exact Or.inr h
  have hS : va_S A s.heap s.heap [] := va_S.rf
  have hP : va_P (dC, dI) cls [(m0, .inr (12, [.int th, .ref lr, .ref ld, .ref o1, .int (-1), .int (-1), .int 0, .ref o2, .ref o3, .ref o4, .ref o5, .ref o6, .ref o7, .ref o8, .ref o9, .ref o10, .int 0, .int 0, .null, .int 0, .int 45, .ref t1, .ref t2, .ref t3, .ref t4, .ref t5])), (lr, .inr (14, [.int 0, .ref tE, .int 0])), (ld, .inr (14, [.int 0, .ref tE, .int 0]))] s.heap := hP
  have hl := lv_entry ([.ref m0]) (n := 1) (Nat.le_of_ble_eq_true rfl)
  rw [lg_entry_eq]
  generalize (lg_sl ([.ref m0]) ++ List.replicate (1 - (lg_sl ([.ref m0])).length) Slot.unset).toArray = ls at hl ⊢
  have hl : lv_has ls 1 [(0, .ref m0)] := hl
  refine lv_aload_n hx hb dX12_number_0 rfl (lv_at hl 0 rfl) ?_
  refine lv_aload_n hx hb dX12_number_1 rfl (lv_at hl 0 rfl) ?_
  refine va_get (D := (dC, dI)) (ci := 12) (v := .int 0) (C := RX12) (T := TX12) (N := 26) hx hb hq i_X12 hown hK hP 0 rfl rfl 6 (by decide) (hq _ q_1310) (fun _ h9 => h9) rfl dX12_number_2 ?_
  refine lv_if_eq (tgt := 12) hx hb dX12_number_5 (by decide) (fun c_1 => ?_) (fun c_1 => ?_)
  · refine lv_iconst (v := 1) hx hb dX12_number_12 (by decide) ?_
    have hPc := hP.sub (ws' := [(m0, .inr (12, [.int th, .ref lr, .ref ld, .ref o1, .int (-1), .int (-1), .int 0, .ref o2, .ref o3, .ref o4, .ref o5, .ref o6, .ref o7, .ref o8, .ref o9, .ref o10, .int 0, .int 0, .null, .int 0, .int 45, .ref t1, .ref t2, .ref t3, .ref t4, .ref t5]))]) [0] rfl
    have hKc := hK.sub (tys' := []) [] rfl
    have hDc := hD.sub (ws' := [(m0, .inr (12, [.int th, .ref lr, .ref ld, .ref o1, .int (-1), .int (-1), .int 0, .ref o2, .ref o3, .ref o4, .ref o5, .ref o6, .ref o7, .ref o8, .ref o9, .ref o10, .int 0, .int 0, .null, .int 0, .int 45, .ref t1, .ref t2, .ref t3, .ref t4, .ref t5]))]) [0] (by decide) rfl
    have hFc := va_free (wc := [(m0, .inr (12, [.int th, .ref lr, .ref ld, .ref o1, .int (-1), .int (-1), .int 0, .ref o2, .ref o3, .ref o4, .ref o5, .ref o6, .ref o7, .ref o8, .ref o9, .ref o10, .int 0, .int 0, .null, .int 0, .int 45, .ref t1, .ref t2, .ref t3, .ref t4, .ref t5]))]) hD hS hA [0] rfl
    refine va_calli (va_runV (As := [.int 1]) (rest := []) ⟨hx, hb, hml, hown, hq⟩ (c_isWrong1 l hst tE adK adV dC dI m0 lr ld o1 o2 o3 o4 o5 o6 o7 o8 o9 o10 t1 t2 t3 t4 t5 th s.heap.size) (tcV 1 hq q_1488 q_12 q_1485 q_1487 qp_22 rfl rfl (by decide +kernel) ⟨Nat.le_of_ble_eq_true rfl, Nat.le_of_ble_eq_true rfl⟩) (pre.V (va_recv hK hP (ci := 12) (q0 := 0) rfl rfl) (pre.of hPc hDc hKc ham hS hFc)) rfl rfl hl.1 rfl (lv_room (Nat.le_of_ble_eq_true rfl)) dX12_number_13 ⟨Nat.le_of_ble_eq_true rfl, Nat.le_of_ble_eq_true rfl⟩) hS (fun q _ h => hFc q h) hFc (fun r_2 u t H1 locs ht hvm hw hB hz1 hk1 hS => ?_)
    obtain ⟨hP1, hK1, hD1⟩ := hB
    rw [ht] at hP1
    have hK1 := va_K.moved hvm.symm hK1
    obtain ⟨hP, hD⟩ := va_join (wr := [(lr, .inr (14, [.int 0, .ref tE, .int 0])), (ld, .inr (14, [.int 0, .ref tE, .int 0]))]) (w1 := [(m0, .inr (12, [.int 1, .ref lr, .ref ld, .ref o1, .int (-1), .int (-1), .int 0, .ref o2, .ref o3, .ref o4, .ref o5, .ref o6, .ref o7, .ref o8, .ref o9, .ref o10, .int 0, .int 0, .null, .int 0, .int 45, .ref t1, .ref t2, .ref t3, .ref t4, .ref t5]))]) (wc := [(m0, .inr (12, [.int th, .ref lr, .ref ld, .ref o1, .int (-1), .int (-1), .int 0, .ref o2, .ref o3, .ref o4, .ref o5, .ref o6, .ref o7, .ref o8, .ref o9, .ref o10, .int 0, .int 0, .null, .int 0, .int 45, .ref t1, .ref t2, .ref t3, .ref t4, .ref t5]))]) hP hD [0] [1, 2] rfl rfl (by decide) (by decide) hk1 hFc hP1 hD1
    have hK := (hK.sub (tys' := []) [] rfl).app hK1
    generalize H1 = H at hP hS ⊢
    have hP : va_P (dC, dI) cls [(lr, .inr (14, [.int 0, .ref tE, .int 0])), (ld, .inr (14, [.int 0, .ref tE, .int 0])), (m0, .inr (12, [.int 1, .ref lr, .ref ld, .ref o1, .int (-1), .int (-1), .int 0, .ref o2, .ref o3, .ref o4, .ref o5, .ref o6, .ref o7, .ref o8, .ref o9, .ref o10, .int 0, .int 0, .null, .int 0, .int 45, .ref t1, .ref t2, .ref t3, .ref t4, .ref t5]))] H := hP
    have hD : va_D A [(lr, .inr (14, [.int 0, .ref tE, .int 0])), (ld, .inr (14, [.int 0, .ref tE, .int 0])), (m0, .inr (12, [.int 1, .ref lr, .ref ld, .ref o1, .int (-1), .int (-1), .int 0, .ref o2, .ref o3, .ref o4, .ref o5, .ref o6, .ref o7, .ref o8, .ref o9, .ref o10, .int 0, .int 0, .null, .int 0, .int 45, .ref t1, .ref t2, .ref t3, .ref t4, .ref t5]))] := hD
    have hK : va_K (dC, dI) cls [] s := hK
    refine W.widen (k := 0) (n := 0) (Nat.le_of_ble_eq_true rfl) (Nat.le_of_ble_eq_true rfl) ?_
    have hw : r_2 = 1 := hw
    subst hw
    refine lv_if_eq (tgt := 23) hx hb dX12_number_16 (by decide) (fun c_3 => ?_) (fun c_3 => ?_)
    · exact absurd c_3 (by decide)
    · refine lv_iconst (v := 0) hx hb dX12_number_19 (by decide) ?_
      refine lv_goto (tgt := 27) hx hb dX12_number_20 (by decide) ?_
      refine W.widen (k := 0) (n := 0) (Nat.le_of_ble_eq_true rfl) (Nat.le_of_ble_eq_true rfl) ?_
      have hP9 := hP.sub (ws' := [(m0, .inr (12, [.int 1, .ref lr, .ref ld, .ref o1, .int (-1), .int (-1), .int 0, .ref o2, .ref o3, .ref o4, .ref o5, .ref o6, .ref o7, .ref o8, .ref o9, .ref o10, .int 0, .int 0, .null, .int 0, .int 45, .ref t1, .ref t2, .ref t3, .ref t4, .ref t5]))]) [2] rfl
      have hD9 := hD.sub (ws' := [(m0, .inr (12, [.int 1, .ref lr, .ref ld, .ref o1, .int (-1), .int (-1), .int 0, .ref o2, .ref o3, .ref o4, .ref o5, .ref o6, .ref o7, .ref o8, .ref o9, .ref o10, .int 0, .int 0, .null, .int 0, .int 45, .ref t1, .ref t2, .ref t3, .ref t4, .ref t5]))]) [2] (by decide) rfl
      have hK9 := hK.sub (tys' := []) [] rfl
      exact W.iret (v := 0) hx hb hr (fun t ht hW => ⟨⟨0, (), rfl, trivial, ⟨by rw [ht]; exact hP9, va_K.moved hW.alike hK9, hD9⟩⟩, hS.F ht⟩) hS.2.2 dX12_number_27
  · exact absurd c_1 (by decide)
abbrev cX12_isAlive : ByteArray := prog_13_method_36_code
def yX12_isAlive : MethodName := ⟨RX12, "isAlive", "(I)Z"⟩
theorem dX12_isAlive_0 : decode cX12_isAlive 0 = .ok (.aload_n 0, 1) := by decide +kernel
theorem dX12_isAlive_1 : decode cX12_isAlive 1 = .ok (.iload_n 1, 1) := by decide +kernel
theorem dX12_isAlive_2 : decode cX12_isAlive 2 = .ok (.invokevirtual 247, 3) := by decide +kernel
theorem q_1837 : (Cond.code yX12_isNobody cX12_isNobody 2 (some .boolean)) ∈ tw := tw_in (i := 1837) (by decide +kernel) (by decide +kernel)
theorem q_1834 : (Cond.methodLink "NightfallVillageModel" 247 yX12_isNobody) ∈ tw := tw_in (i := 1834) (by decide +kernel) (by decide +kernel)
theorem q_1836 : (Cond.instanceMethod yX12_isNobody) ∈ tw := tw_in (i := 1836) (by decide +kernel) (by decide +kernel)
theorem qp_39 : (Cond.selects yX12_isNobody.cls yX12_isNobody yX12_isNobody) ∈ tw := tw_inP (i := 39) (by decide +kernel) (by decide +kernel)
theorem dX12_isAlive_5 : decode cX12_isAlive 5 = .ok (.ifCond .ne 15, 3) := by decide +kernel
theorem dX12_isAlive_20 : decode cX12_isAlive 20 = .ok (.iconst 0, 1) := by decide +kernel
theorem dX12_isAlive_21 : decode cX12_isAlive 21 = .ok (.ireturn, 1) := by decide +kernel
set_option maxHeartbeats 4000000 in
set_option maxRecDepth 100000 in
theorem c_M_isAlive (l : Launch) (hst : l.stackTraces = false) (tE : Nat) (adK adV : Nat → Nat) (dC : Nat → ClassId) (dI : Nat → Nat → Nat) (m0 : Nat) (lr : Nat) (ld : Nat) (o1 : Nat) (o2 : Nat) (o3 : Nat) (o4 : Nat) (o5 : Nat) (o6 : Nat) (o7 : Nat) (o8 : Nat) (o9 : Nat) (o10 : Nat) (t1 : Nat) (t2 : Nat) (t3 : Nat) (t4 : Nat) (t5 : Nat) (th : Int32) (p1 : Int32) (sz : Nat) : Met l yX12_isAlive (Cond.code yX12_isAlive cX12_isAlive 2 (some .boolean) :: tw) ({ frames := 3, cells := 0, slots := 0, locals := 62 }) (va_Pc [.ref m0, .int p1] (pre tE adK adV (dC, dI) [(m0, .inr (12, [.int th, .ref lr, .ref ld, .ref o1, .int (-1), .int (-1), .int 0, .ref o2, .ref o3, .ref o4, .ref o5, .ref o6, .ref o7, .ref o8, .ref o9, .ref o10, .int 0, .int 0, .null, .int 0, .int 45, .ref t1, .ref t2, .ref t3, .ref t4, .ref t5])), (lr, .inr (14, [.int 0, .ref tE, .int 0])), (ld, .inr (14, [.int 0, .ref tE, .int 0]))] [] sz)) (va_Qi (fun (r : Int32) (_ : Unit) => True) (fun (_ : Unit) (t : State) => va_P (dC, dI) cls [(m0, .inr (12, [.int 1, .ref lr, .ref ld, .ref o1, .int (-1), .int (-1), .int 0, .ref o2, .ref o3, .ref o4, .ref o5, .ref o6, .ref o7, .ref o8, .ref o9, .ref o10, .int 0, .int 0, .null, .int 0, .int 45, .ref t1, .ref t2, .ref t3, .ref t4, .ref t5]))] t.heap ∧ va_K (dC, dI) cls [] t ∧ va_D (va_A [(m0, .inr (12, [.int th, .ref lr, .ref ld, .ref o1, .int (-1), .int (-1), .int 0, .ref o2, .ref o3, .ref o4, .ref o5, .ref o6, .ref o7, .ref o8, .ref o9, .ref o10, .int 0, .int 0, .null, .int 0, .int 45, .ref t1, .ref t2, .ref t3, .ref t4, .ref t5])), (lr, .inr (14, [.int 0, .ref tE, .int 0])), (ld, .inr (14, [.int 0, .ref tE, .int 0]))] sz) [(m0, .inr (12, [.int 1, .ref lr, .ref ld, .ref o1, .int (-1), .int (-1), .int 0, .ref o2, .ref o3, .ref o4, .ref o5, .ref o6, .ref o7, .ref o8, .ref o9, .ref o10, .int 0, .int 0, .null, .int 0, .int 45, .ref t1, .ref t2, .ref t3, .ref t4, .ref t5]))]) (va_A [(m0, .inr (12, [.int th, .ref lr, .ref ld, .ref o1, .int (-1), .int (-1), .int 0, .ref o2, .ref o3, .ref o4, .ref o5, .ref o6, .ref o7, .ref o8, .ref o9, .ref o10, .int 0, .int 0, .null, .int 0, .int 45, .ref t1, .ref t2, .ref t3, .ref t4, .ref t5])), (lr, .inr (14, [.int 0, .ref tE, .int 0])), (ld, .inr (14, [.int 0, .ref tE, .int 0]))] sz)) 0 0 (va_A [(m0, .inr (12, [.int th, .ref lr, .ref ld, .ref o1, .int (-1), .int (-1), .int 0, .ref o2, .ref o3, .ref o4, .ref o5, .ref o6, .ref o7, .ref o8, .ref o9, .ref o10, .int 0, .int 0, .null, .int 0, .int 45, .ref t1, .ref t2, .ref t3, .ref t4, .ref t5])), (lr, .inr (14, [.int 0, .ref tE, .int 0])), (ld, .inr (14, [.int 0, .ref tE, .int 0]))] sz) := by
  refine Met.ofW (cc := cX12_isAlive) (maxL := 2) (ret := (some .boolean)) (by decide) rfl ?_
  intro p e s m args below meth c s₁ B hml hv
  obtain ⟨rfl, hsz, hP, hK, hD0, ham⟩ := hv
  have hx := B.exec
  have hb := B.bytes
  have hr := B.returns
  have hts := atoms_spec B.pre
  have hq : ∀ w ∈ tw, w.before _ s = true := fun w h => hts w (List.mem_cons_of_mem _ h)
  have hown : s.vm.findClass RX12 = some m.cls := findClass_of_methodNamed B.named
  have hlocks := B.notSynchronized
  subst hsz
  have hD := hD0.self (sz := s.heap.size)
  generalize hAe : va_A [(m0, .inr (12, [.int th, .ref lr, .ref ld, .ref o1, .int (-1), .int (-1), .int 0, .ref o2, .ref o3, .ref o4, .ref o5, .ref o6, .ref o7, .ref o8, .ref o9, .ref o10, .int 0, .int 0, .null, .int 0, .int 45, .ref t1, .ref t2, .ref t3, .ref t4, .ref t5])), (lr, .inr (14, [.int 0, .ref tE, .int 0])), (ld, .inr (14, [.int 0, .ref tE, .int 0]))] s.heap.size = A at hD ham ⊢
  have hA : ∀ q : Nat, s.heap.size ≤ q → A q := fun q h => by rw [← hAe]; exact Or.inr h
  have hS : va_S A s.heap s.heap [] := va_S.rf
  have hP : va_P (dC, dI) cls [(m0, .inr (12, [.int th, .ref lr, .ref ld, .ref o1, .int (-1), .int (-1), .int 0, .ref o2, .ref o3, .ref o4, .ref o5, .ref o6, .ref o7, .ref o8, .ref o9, .ref o10, .int 0, .int 0, .null, .int 0, .int 45, .ref t1, .ref t2, .ref t3, .ref t4, .ref t5])), (lr, .inr (14, [.int 0, .ref tE, .int 0])), (ld, .inr (14, [.int 0, .ref tE, .int 0]))] s.heap := hP
  have hl := lv_entry ([.ref m0, .int p1]) (n := 2) (Nat.le_of_ble_eq_true rfl)
  rw [lg_entry_eq]
  generalize (lg_sl ([.ref m0, .int p1]) ++ List.replicate (2 - (lg_sl ([.ref m0, .int p1])).length) Slot.unset).toArray = ls at hl ⊢
  have hl : lv_has ls 2 [(0, .ref m0), (1, .int p1)] := hl
  refine lv_aload_n hx hb dX12_isAlive_0 rfl (lv_at hl 0 rfl) ?_
  refine lv_iload_n hx hb dX12_isAlive_1 rfl (lv_at hl 1 rfl) ?_
  have hPc := hP.sub (ws' := [(m0, .inr (12, [.int th, .ref lr, .ref ld, .ref o1, .int (-1), .int (-1), .int 0, .ref o2, .ref o3, .ref o4, .ref o5, .ref o6, .ref o7, .ref o8, .ref o9, .ref o10, .int 0, .int 0, .null, .int 0, .int 45, .ref t1, .ref t2, .ref t3, .ref t4, .ref t5])), (lr, .inr (14, [.int 0, .ref tE, .int 0])), (ld, .inr (14, [.int 0, .ref tE, .int 0]))]) [0, 1, 2] rfl
  have hKc := hK.sub (tys' := []) [] rfl
  have hDc := hD.sub (ws' := [(m0, .inr (12, [.int th, .ref lr, .ref ld, .ref o1, .int (-1), .int (-1), .int 0, .ref o2, .ref o3, .ref o4, .ref o5, .ref o6, .ref o7, .ref o8, .ref o9, .ref o10, .int 0, .int 0, .null, .int 0, .int 45, .ref t1, .ref t2, .ref t3, .ref t4, .ref t5])), (lr, .inr (14, [.int 0, .ref tE, .int 0])), (ld, .inr (14, [.int 0, .ref tE, .int 0]))]) [0, 1, 2] (by decide) rfl
  have hFc := va_free (wc := [(m0, .inr (12, [.int th, .ref lr, .ref ld, .ref o1, .int (-1), .int (-1), .int 0, .ref o2, .ref o3, .ref o4, .ref o5, .ref o6, .ref o7, .ref o8, .ref o9, .ref o10, .int 0, .int 0, .null, .int 0, .int 45, .ref t1, .ref t2, .ref t3, .ref t4, .ref t5])), (lr, .inr (14, [.int 0, .ref tE, .int 0])), (ld, .inr (14, [.int 0, .ref tE, .int 0]))]) hD hS hA [0, 1, 2] rfl
  refine va_calli (va_runV (As := [.int p1]) (rest := []) ⟨hx, hb, hml, hown, hq⟩ (c_M_isNobody l hst tE adK adV dC dI m0 lr ld o1 o2 o3 o4 o5 o6 o7 o8 o9 o10 t1 t2 t3 t4 t5 th p1 s.heap.size) (tcV 1 hq q_1837 q_12 q_1834 q_1836 qp_39 rfl rfl (by decide +kernel) ⟨Nat.le_of_ble_eq_true rfl, Nat.le_of_ble_eq_true rfl⟩) (pre.V (va_recv hK hP (ci := 12) (q0 := 0) rfl rfl) (pre.of hPc hDc hKc ham hS hFc)) rfl rfl hl.1 rfl (lv_room (Nat.le_of_ble_eq_true rfl)) dX12_isAlive_2 ⟨Nat.le_of_ble_eq_true rfl, Nat.le_of_ble_eq_true rfl⟩) hS (fun q _ h => hFc q h) hFc (fun r_1 u t H1 locs ht hvm hw hB hz1 hk1 hS => ?_)
  obtain ⟨hP1, hK1, hD1⟩ := hB
  rw [ht] at hP1
  have hK1 := va_K.moved hvm.symm hK1
  obtain ⟨hP, hD⟩ := va_join (wr := []) (w1 := [(m0, .inr (12, [.int 1, .ref lr, .ref ld, .ref o1, .int (-1), .int (-1), .int 0, .ref o2, .ref o3, .ref o4, .ref o5, .ref o6, .ref o7, .ref o8, .ref o9, .ref o10, .int 0, .int 0, .null, .int 0, .int 45, .ref t1, .ref t2, .ref t3, .ref t4, .ref t5]))]) (wc := [(m0, .inr (12, [.int th, .ref lr, .ref ld, .ref o1, .int (-1), .int (-1), .int 0, .ref o2, .ref o3, .ref o4, .ref o5, .ref o6, .ref o7, .ref o8, .ref o9, .ref o10, .int 0, .int 0, .null, .int 0, .int 45, .ref t1, .ref t2, .ref t3, .ref t4, .ref t5])), (lr, .inr (14, [.int 0, .ref tE, .int 0])), (ld, .inr (14, [.int 0, .ref tE, .int 0]))]) hP hD [0, 1, 2] [] rfl rfl (by decide) (by decide) hk1 hFc hP1 hD1
  have hK := (hK.sub (tys' := []) [] rfl).app hK1
  generalize H1 = H at hP hS ⊢
  have hP : va_P (dC, dI) cls [(m0, .inr (12, [.int 1, .ref lr, .ref ld, .ref o1, .int (-1), .int (-1), .int 0, .ref o2, .ref o3, .ref o4, .ref o5, .ref o6, .ref o7, .ref o8, .ref o9, .ref o10, .int 0, .int 0, .null, .int 0, .int 45, .ref t1, .ref t2, .ref t3, .ref t4, .ref t5]))] H := hP
  have hD : va_D A [(m0, .inr (12, [.int 1, .ref lr, .ref ld, .ref o1, .int (-1), .int (-1), .int 0, .ref o2, .ref o3, .ref o4, .ref o5, .ref o6, .ref o7, .ref o8, .ref o9, .ref o10, .int 0, .int 0, .null, .int 0, .int 45, .ref t1, .ref t2, .ref t3, .ref t4, .ref t5]))] := hD
  have hK : va_K (dC, dI) cls [] s := hK
  refine W.widen (k := 0) (n := 0) (Nat.le_of_ble_eq_true rfl) (Nat.le_of_ble_eq_true rfl) ?_
  have hw : r_1 = 1 := hw
  subst hw
  refine lv_if_ne (tgt := 20) hx hb dX12_isAlive_5 (by decide) (fun c_2 => ?_) (fun c_2 => ?_)
  · refine lv_iconst (v := 0) hx hb dX12_isAlive_20 (by decide) ?_
    refine W.widen (k := 0) (n := 0) (Nat.le_of_ble_eq_true rfl) (Nat.le_of_ble_eq_true rfl) ?_
    have hP9 := hP.sub (ws' := [(m0, .inr (12, [.int 1, .ref lr, .ref ld, .ref o1, .int (-1), .int (-1), .int 0, .ref o2, .ref o3, .ref o4, .ref o5, .ref o6, .ref o7, .ref o8, .ref o9, .ref o10, .int 0, .int 0, .null, .int 0, .int 45, .ref t1, .ref t2, .ref t3, .ref t4, .ref t5]))]) [0] rfl
    have hD9 := hD.sub (ws' := [(m0, .inr (12, [.int 1, .ref lr, .ref ld, .ref o1, .int (-1), .int (-1), .int 0, .ref o2, .ref o3, .ref o4, .ref o5, .ref o6, .ref o7, .ref o8, .ref o9, .ref o10, .int 0, .int 0, .null, .int 0, .int 45, .ref t1, .ref t2, .ref t3, .ref t4, .ref t5]))]) [0] (by decide) rfl
    have hK9 := hK.sub (tys' := []) [] rfl
    exact W.zret (v := 0) hx hb hr (by decide) (fun t ht hW => ⟨⟨0, (), rfl, trivial, ⟨by rw [ht]; exact hP9, va_K.moved hW.alike hK9, hD9⟩⟩, hS.F ht⟩) hS.2.2 dX12_isAlive_21
  · exact absurd c_2 (by decide)
abbrev cX12_death : ByteArray := prog_13_method_38_code
def yX12_death : MethodName := ⟨RX12, "death", "(I)C"⟩
theorem dX12_death_0 : decode cX12_death 0 = .ok (.aload_n 0, 1) := by decide +kernel
theorem dX12_death_1 : decode cX12_death 1 = .ok (.iload_n 1, 1) := by decide +kernel
theorem dX12_death_2 : decode cX12_death 2 = .ok (.invokevirtual 247, 3) := by decide +kernel
theorem dX12_death_5 : decode cX12_death 5 = .ok (.ifCond .eq 7, 3) := by decide +kernel
theorem dX12_death_8 : decode cX12_death 8 = .ok (.iconst 0, 1) := by decide +kernel
theorem dX12_death_9 : decode cX12_death 9 = .ok (.goto 9, 3) := by decide +kernel
theorem dX12_death_18 : decode cX12_death 18 = .ok (.ireturn, 1) := by decide +kernel
set_option maxHeartbeats 4000000 in
set_option maxRecDepth 100000 in
theorem c_M_death (l : Launch) (hst : l.stackTraces = false) (tE : Nat) (adK adV : Nat → Nat) (dC : Nat → ClassId) (dI : Nat → Nat → Nat) (m0 : Nat) (lr : Nat) (ld : Nat) (o1 : Nat) (o2 : Nat) (o3 : Nat) (o4 : Nat) (o5 : Nat) (o6 : Nat) (o7 : Nat) (o8 : Nat) (o9 : Nat) (o10 : Nat) (t1 : Nat) (t2 : Nat) (t3 : Nat) (t4 : Nat) (t5 : Nat) (th : Int32) (p1 : Int32) (sz : Nat) : Met l yX12_death (Cond.code yX12_death cX12_death 2 (some .char) :: tw) ({ frames := 3, cells := 0, slots := 0, locals := 62 }) (va_Pc [.ref m0, .int p1] (pre tE adK adV (dC, dI) [(m0, .inr (12, [.int th, .ref lr, .ref ld, .ref o1, .int (-1), .int (-1), .int 0, .ref o2, .ref o3, .ref o4, .ref o5, .ref o6, .ref o7, .ref o8, .ref o9, .ref o10, .int 0, .int 0, .null, .int 0, .int 45, .ref t1, .ref t2, .ref t3, .ref t4, .ref t5])), (lr, .inr (14, [.int 0, .ref tE, .int 0])), (ld, .inr (14, [.int 0, .ref tE, .int 0]))] [] sz)) (va_Qi (fun (r : Int32) (_ : Unit) => True) (fun (_ : Unit) (t : State) => va_P (dC, dI) cls [(m0, .inr (12, [.int 1, .ref lr, .ref ld, .ref o1, .int (-1), .int (-1), .int 0, .ref o2, .ref o3, .ref o4, .ref o5, .ref o6, .ref o7, .ref o8, .ref o9, .ref o10, .int 0, .int 0, .null, .int 0, .int 45, .ref t1, .ref t2, .ref t3, .ref t4, .ref t5]))] t.heap ∧ va_K (dC, dI) cls [] t ∧ va_D (va_A [(m0, .inr (12, [.int th, .ref lr, .ref ld, .ref o1, .int (-1), .int (-1), .int 0, .ref o2, .ref o3, .ref o4, .ref o5, .ref o6, .ref o7, .ref o8, .ref o9, .ref o10, .int 0, .int 0, .null, .int 0, .int 45, .ref t1, .ref t2, .ref t3, .ref t4, .ref t5])), (lr, .inr (14, [.int 0, .ref tE, .int 0])), (ld, .inr (14, [.int 0, .ref tE, .int 0]))] sz) [(m0, .inr (12, [.int 1, .ref lr, .ref ld, .ref o1, .int (-1), .int (-1), .int 0, .ref o2, .ref o3, .ref o4, .ref o5, .ref o6, .ref o7, .ref o8, .ref o9, .ref o10, .int 0, .int 0, .null, .int 0, .int 45, .ref t1, .ref t2, .ref t3, .ref t4, .ref t5]))]) (va_A [(m0, .inr (12, [.int th, .ref lr, .ref ld, .ref o1, .int (-1), .int (-1), .int 0, .ref o2, .ref o3, .ref o4, .ref o5, .ref o6, .ref o7, .ref o8, .ref o9, .ref o10, .int 0, .int 0, .null, .int 0, .int 45, .ref t1, .ref t2, .ref t3, .ref t4, .ref t5])), (lr, .inr (14, [.int 0, .ref tE, .int 0])), (ld, .inr (14, [.int 0, .ref tE, .int 0]))] sz)) 0 0 (va_A [(m0, .inr (12, [.int th, .ref lr, .ref ld, .ref o1, .int (-1), .int (-1), .int 0, .ref o2, .ref o3, .ref o4, .ref o5, .ref o6, .ref o7, .ref o8, .ref o9, .ref o10, .int 0, .int 0, .null, .int 0, .int 45, .ref t1, .ref t2, .ref t3, .ref t4, .ref t5])), (lr, .inr (14, [.int 0, .ref tE, .int 0])), (ld, .inr (14, [.int 0, .ref tE, .int 0]))] sz) := by
  refine Met.ofW (cc := cX12_death) (maxL := 2) (ret := (some .char)) (by decide) rfl ?_
  intro p e s m args below meth c s₁ B hml hv
  obtain ⟨rfl, hsz, hP, hK, hD0, ham⟩ := hv
  have hx := B.exec
  have hb := B.bytes
  have hr := B.returns
  have hts := atoms_spec B.pre
  have hq : ∀ w ∈ tw, w.before _ s = true := fun w h => hts w (List.mem_cons_of_mem _ h)
  have hown : s.vm.findClass RX12 = some m.cls := findClass_of_methodNamed B.named
  have hlocks := B.notSynchronized
  subst hsz
  have hD := hD0.self (sz := s.heap.size)
  generalize hAe : va_A [(m0, .inr (12, [.int th, .ref lr, .ref ld, .ref o1, .int (-1), .int (-1), .int 0, .ref o2, .ref o3, .ref o4, .ref o5, .ref o6, .ref o7, .ref o8, .ref o9, .ref o10, .int 0, .int 0, .null, .int 0, .int 45, .ref t1, .ref t2, .ref t3, .ref t4, .ref t5])), (lr, .inr (14, [.int 0, .ref tE, .int 0])), (ld, .inr (14, [.int 0, .ref tE, .int 0]))] s.heap.size = A at hD ham ⊢
  have hA : ∀ q : Nat, s.heap.size ≤ q → A q := fun q h => by rw [← hAe]; exact Or.inr h
  have hS : va_S A s.heap s.heap [] := va_S.rf
  have hP : va_P (dC, dI) cls [(m0, .inr (12, [.int th, .ref lr, .ref ld, .ref o1, .int (-1), .int (-1), .int 0, .ref o2, .ref o3, .ref o4, .ref o5, .ref o6, .ref o7, .ref o8, .ref o9, .ref o10, .int 0, .int 0, .null, .int 0, .int 45, .ref t1, .ref t2, .ref t3, .ref t4, .ref t5])), (lr, .inr (14, [.int 0, .ref tE, .int 0])), (ld, .inr (14, [.int 0, .ref tE, .int 0]))] s.heap := hP
  have hl := lv_entry ([.ref m0, .int p1]) (n := 2) (Nat.le_of_ble_eq_true rfl)
  rw [lg_entry_eq]
  generalize (lg_sl ([.ref m0, .int p1]) ++ List.replicate (2 - (lg_sl ([.ref m0, .int p1])).length) Slot.unset).toArray = ls at hl ⊢
  have hl : lv_has ls 2 [(0, .ref m0), (1, .int p1)] := hl
  refine lv_aload_n hx hb dX12_death_0 rfl (lv_at hl 0 rfl) ?_
  refine lv_iload_n hx hb dX12_death_1 rfl (lv_at hl 1 rfl) ?_
  have hPc := hP.sub (ws' := [(m0, .inr (12, [.int th, .ref lr, .ref ld, .ref o1, .int (-1), .int (-1), .int 0, .ref o2, .ref o3, .ref o4, .ref o5, .ref o6, .ref o7, .ref o8, .ref o9, .ref o10, .int 0, .int 0, .null, .int 0, .int 45, .ref t1, .ref t2, .ref t3, .ref t4, .ref t5])), (lr, .inr (14, [.int 0, .ref tE, .int 0])), (ld, .inr (14, [.int 0, .ref tE, .int 0]))]) [0, 1, 2] rfl
  have hKc := hK.sub (tys' := []) [] rfl
  have hDc := hD.sub (ws' := [(m0, .inr (12, [.int th, .ref lr, .ref ld, .ref o1, .int (-1), .int (-1), .int 0, .ref o2, .ref o3, .ref o4, .ref o5, .ref o6, .ref o7, .ref o8, .ref o9, .ref o10, .int 0, .int 0, .null, .int 0, .int 45, .ref t1, .ref t2, .ref t3, .ref t4, .ref t5])), (lr, .inr (14, [.int 0, .ref tE, .int 0])), (ld, .inr (14, [.int 0, .ref tE, .int 0]))]) [0, 1, 2] (by decide) rfl
  have hFc := va_free (wc := [(m0, .inr (12, [.int th, .ref lr, .ref ld, .ref o1, .int (-1), .int (-1), .int 0, .ref o2, .ref o3, .ref o4, .ref o5, .ref o6, .ref o7, .ref o8, .ref o9, .ref o10, .int 0, .int 0, .null, .int 0, .int 45, .ref t1, .ref t2, .ref t3, .ref t4, .ref t5])), (lr, .inr (14, [.int 0, .ref tE, .int 0])), (ld, .inr (14, [.int 0, .ref tE, .int 0]))]) hD hS hA [0, 1, 2] rfl
  refine va_calli (va_runV (As := [.int p1]) (rest := []) ⟨hx, hb, hml, hown, hq⟩ (c_M_isNobody l hst tE adK adV dC dI m0 lr ld o1 o2 o3 o4 o5 o6 o7 o8 o9 o10 t1 t2 t3 t4 t5 th p1 s.heap.size) (tcV 1 hq q_1837 q_12 q_1834 q_1836 qp_39 rfl rfl (by decide +kernel) ⟨Nat.le_of_ble_eq_true rfl, Nat.le_of_ble_eq_true rfl⟩) (pre.V (va_recv hK hP (ci := 12) (q0 := 0) rfl rfl) (pre.of hPc hDc hKc ham hS hFc)) rfl rfl hl.1 rfl (lv_room (Nat.le_of_ble_eq_true rfl)) dX12_death_2 ⟨Nat.le_of_ble_eq_true rfl, Nat.le_of_ble_eq_true rfl⟩) hS (fun q _ h => hFc q h) hFc (fun r_1 u t H1 locs ht hvm hw hB hz1 hk1 hS => ?_)
  obtain ⟨hP1, hK1, hD1⟩ := hB
  rw [ht] at hP1
  have hK1 := va_K.moved hvm.symm hK1
  obtain ⟨hP, hD⟩ := va_join (wr := []) (w1 := [(m0, .inr (12, [.int 1, .ref lr, .ref ld, .ref o1, .int (-1), .int (-1), .int 0, .ref o2, .ref o3, .ref o4, .ref o5, .ref o6, .ref o7, .ref o8, .ref o9, .ref o10, .int 0, .int 0, .null, .int 0, .int 45, .ref t1, .ref t2, .ref t3, .ref t4, .ref t5]))]) (wc := [(m0, .inr (12, [.int th, .ref lr, .ref ld, .ref o1, .int (-1), .int (-1), .int 0, .ref o2, .ref o3, .ref o4, .ref o5, .ref o6, .ref o7, .ref o8, .ref o9, .ref o10, .int 0, .int 0, .null, .int 0, .int 45, .ref t1, .ref t2, .ref t3, .ref t4, .ref t5])), (lr, .inr (14, [.int 0, .ref tE, .int 0])), (ld, .inr (14, [.int 0, .ref tE, .int 0]))]) hP hD [0, 1, 2] [] rfl rfl (by decide) (by decide) hk1 hFc hP1 hD1
  have hK := (hK.sub (tys' := []) [] rfl).app hK1
  generalize H1 = H at hP hS ⊢
  have hP : va_P (dC, dI) cls [(m0, .inr (12, [.int 1, .ref lr, .ref ld, .ref o1, .int (-1), .int (-1), .int 0, .ref o2, .ref o3, .ref o4, .ref o5, .ref o6, .ref o7, .ref o8, .ref o9, .ref o10, .int 0, .int 0, .null, .int 0, .int 45, .ref t1, .ref t2, .ref t3, .ref t4, .ref t5]))] H := hP
  have hD : va_D A [(m0, .inr (12, [.int 1, .ref lr, .ref ld, .ref o1, .int (-1), .int (-1), .int 0, .ref o2, .ref o3, .ref o4, .ref o5, .ref o6, .ref o7, .ref o8, .ref o9, .ref o10, .int 0, .int 0, .null, .int 0, .int 45, .ref t1, .ref t2, .ref t3, .ref t4, .ref t5]))] := hD
  have hK : va_K (dC, dI) cls [] s := hK
  refine W.widen (k := 0) (n := 0) (Nat.le_of_ble_eq_true rfl) (Nat.le_of_ble_eq_true rfl) ?_
  have hw : r_1 = 1 := hw
  subst hw
  refine lv_if_eq (tgt := 12) hx hb dX12_death_5 (by decide) (fun c_2 => ?_) (fun c_2 => ?_)
  · exact absurd c_2 (by decide)
  · refine lv_iconst (v := 0) hx hb dX12_death_8 (by decide) ?_
    refine lv_goto (tgt := 18) hx hb dX12_death_9 (by decide) ?_
    refine W.widen (k := 0) (n := 0) (Nat.le_of_ble_eq_true rfl) (Nat.le_of_ble_eq_true rfl) ?_
    have hP9 := hP.sub (ws' := [(m0, .inr (12, [.int 1, .ref lr, .ref ld, .ref o1, .int (-1), .int (-1), .int 0, .ref o2, .ref o3, .ref o4, .ref o5, .ref o6, .ref o7, .ref o8, .ref o9, .ref o10, .int 0, .int 0, .null, .int 0, .int 45, .ref t1, .ref t2, .ref t3, .ref t4, .ref t5]))]) [0] rfl
    have hD9 := hD.sub (ws' := [(m0, .inr (12, [.int 1, .ref lr, .ref ld, .ref o1, .int (-1), .int (-1), .int 0, .ref o2, .ref o3, .ref o4, .ref o5, .ref o6, .ref o7, .ref o8, .ref o9, .ref o10, .int 0, .int 0, .null, .int 0, .int 45, .ref t1, .ref t2, .ref t3, .ref t4, .ref t5]))]) [0] (by decide) rfl
    have hK9 := hK.sub (tys' := []) [] rfl
    exact W.zret (v := 0) hx hb hr (by decide) (fun t ht hW => ⟨⟨0, (), rfl, trivial, ⟨by rw [ht]; exact hP9, va_K.moved hW.alike hK9, hD9⟩⟩, hS.F ht⟩) hS.2.2 dX12_death_18
abbrev cX12_roleOf : ByteArray := prog_13_method_39_code
def yX12_roleOf : MethodName := ⟨RX12, "roleOf", "(I)I"⟩
theorem dX12_roleOf_0 : decode cX12_roleOf 0 = .ok (.aload_n 0, 1) := by decide +kernel
theorem dX12_roleOf_1 : decode cX12_roleOf 1 = .ok (.iload_n 1, 1) := by decide +kernel
theorem dX12_roleOf_2 : decode cX12_roleOf 2 = .ok (.invokevirtual 247, 3) := by decide +kernel
theorem dX12_roleOf_5 : decode cX12_roleOf 5 = .ok (.ifCond .eq 7, 3) := by decide +kernel
theorem dX12_roleOf_8 : decode cX12_roleOf 8 = .ok (.iconst 0, 1) := by decide +kernel
theorem dX12_roleOf_9 : decode cX12_roleOf 9 = .ok (.goto 9, 3) := by decide +kernel
theorem dX12_roleOf_18 : decode cX12_roleOf 18 = .ok (.ireturn, 1) := by decide +kernel
set_option maxHeartbeats 4000000 in
set_option maxRecDepth 100000 in
theorem c_M_roleOf (l : Launch) (hst : l.stackTraces = false) (tE : Nat) (adK adV : Nat → Nat) (dC : Nat → ClassId) (dI : Nat → Nat → Nat) (m0 : Nat) (lr : Nat) (ld : Nat) (o1 : Nat) (o2 : Nat) (o3 : Nat) (o4 : Nat) (o5 : Nat) (o6 : Nat) (o7 : Nat) (o8 : Nat) (o9 : Nat) (o10 : Nat) (t1 : Nat) (t2 : Nat) (t3 : Nat) (t4 : Nat) (t5 : Nat) (th : Int32) (p1 : Int32) (sz : Nat) : Met l yX12_roleOf (Cond.code yX12_roleOf cX12_roleOf 2 (some .int) :: tw) ({ frames := 3, cells := 0, slots := 0, locals := 62 }) (va_Pc [.ref m0, .int p1] (pre tE adK adV (dC, dI) [(m0, .inr (12, [.int th, .ref lr, .ref ld, .ref o1, .int (-1), .int (-1), .int 0, .ref o2, .ref o3, .ref o4, .ref o5, .ref o6, .ref o7, .ref o8, .ref o9, .ref o10, .int 0, .int 0, .null, .int 0, .int 45, .ref t1, .ref t2, .ref t3, .ref t4, .ref t5])), (lr, .inr (14, [.int 0, .ref tE, .int 0])), (ld, .inr (14, [.int 0, .ref tE, .int 0]))] [] sz)) (va_Qi (fun (r : Int32) (_ : Unit) => True) (fun (_ : Unit) (t : State) => va_P (dC, dI) cls [(m0, .inr (12, [.int 1, .ref lr, .ref ld, .ref o1, .int (-1), .int (-1), .int 0, .ref o2, .ref o3, .ref o4, .ref o5, .ref o6, .ref o7, .ref o8, .ref o9, .ref o10, .int 0, .int 0, .null, .int 0, .int 45, .ref t1, .ref t2, .ref t3, .ref t4, .ref t5]))] t.heap ∧ va_K (dC, dI) cls [] t ∧ va_D (va_A [(m0, .inr (12, [.int th, .ref lr, .ref ld, .ref o1, .int (-1), .int (-1), .int 0, .ref o2, .ref o3, .ref o4, .ref o5, .ref o6, .ref o7, .ref o8, .ref o9, .ref o10, .int 0, .int 0, .null, .int 0, .int 45, .ref t1, .ref t2, .ref t3, .ref t4, .ref t5])), (lr, .inr (14, [.int 0, .ref tE, .int 0])), (ld, .inr (14, [.int 0, .ref tE, .int 0]))] sz) [(m0, .inr (12, [.int 1, .ref lr, .ref ld, .ref o1, .int (-1), .int (-1), .int 0, .ref o2, .ref o3, .ref o4, .ref o5, .ref o6, .ref o7, .ref o8, .ref o9, .ref o10, .int 0, .int 0, .null, .int 0, .int 45, .ref t1, .ref t2, .ref t3, .ref t4, .ref t5]))]) (va_A [(m0, .inr (12, [.int th, .ref lr, .ref ld, .ref o1, .int (-1), .int (-1), .int 0, .ref o2, .ref o3, .ref o4, .ref o5, .ref o6, .ref o7, .ref o8, .ref o9, .ref o10, .int 0, .int 0, .null, .int 0, .int 45, .ref t1, .ref t2, .ref t3, .ref t4, .ref t5])), (lr, .inr (14, [.int 0, .ref tE, .int 0])), (ld, .inr (14, [.int 0, .ref tE, .int 0]))] sz)) 0 0 (va_A [(m0, .inr (12, [.int th, .ref lr, .ref ld, .ref o1, .int (-1), .int (-1), .int 0, .ref o2, .ref o3, .ref o4, .ref o5, .ref o6, .ref o7, .ref o8, .ref o9, .ref o10, .int 0, .int 0, .null, .int 0, .int 45, .ref t1, .ref t2, .ref t3, .ref t4, .ref t5])), (lr, .inr (14, [.int 0, .ref tE, .int 0])), (ld, .inr (14, [.int 0, .ref tE, .int 0]))] sz) := by
  refine Met.ofW (cc := cX12_roleOf) (maxL := 2) (ret := (some .int)) (by decide) rfl ?_
  intro p e s m args below meth c s₁ B hml hv
  obtain ⟨rfl, hsz, hP, hK, hD0, ham⟩ := hv
  have hx := B.exec
  have hb := B.bytes
  have hr := B.returns
  have hts := atoms_spec B.pre
  have hq : ∀ w ∈ tw, w.before _ s = true := fun w h => hts w (List.mem_cons_of_mem _ h)
  have hown : s.vm.findClass RX12 = some m.cls := findClass_of_methodNamed B.named
  have hlocks := B.notSynchronized
  subst hsz
  have hD := hD0.self (sz := s.heap.size)
  generalize hAe : va_A [(m0, .inr (12, [.int th, .ref lr, .ref ld, .ref o1, .int (-1), .int (-1), .int 0, .ref o2, .ref o3, .ref o4, .ref o5, .ref o6, .ref o7, .ref o8, .ref o9, .ref o10, .int 0, .int 0, .null, .int 0, .int 45, .ref t1, .ref t2, .ref t3, .ref t4, .ref t5])), (lr, .inr (14, [.int 0, .ref tE, .int 0])), (ld, .inr (14, [.int 0, .ref tE, .int 0]))] s.heap.size = A at hD ham ⊢
  have hA : ∀ q : Nat, s.heap.size ≤ q → A q := fun q h => by rw [← hAe]; exact Or.inr h
  have hS : va_S A s.heap s.heap [] := va_S.rf
  have hP : va_P (dC, dI) cls [(m0, .inr (12, [.int th, .ref lr, .ref ld, .ref o1, .int (-1), .int (-1), .int 0, .ref o2, .ref o3, .ref o4, .ref o5, .ref o6, .ref o7, .ref o8, .ref o9, .ref o10, .int 0, .int 0, .null, .int 0, .int 45, .ref t1, .ref t2, .ref t3, .ref t4, .ref t5])), (lr, .inr (14, [.int 0, .ref tE, .int 0])), (ld, .inr (14, [.int 0, .ref tE, .int 0]))] s.heap := hP
  have hl := lv_entry ([.ref m0, .int p1]) (n := 2) (Nat.le_of_ble_eq_true rfl)
  rw [lg_entry_eq]
  generalize (lg_sl ([.ref m0, .int p1]) ++ List.replicate (2 - (lg_sl ([.ref m0, .int p1])).length) Slot.unset).toArray = ls at hl ⊢
  have hl : lv_has ls 2 [(0, .ref m0), (1, .int p1)] := hl
  refine lv_aload_n hx hb dX12_roleOf_0 rfl (lv_at hl 0 rfl) ?_
  refine lv_iload_n hx hb dX12_roleOf_1 rfl (lv_at hl 1 rfl) ?_
  have hPc := hP.sub (ws' := [(m0, .inr (12, [.int th, .ref lr, .ref ld, .ref o1, .int (-1), .int (-1), .int 0, .ref o2, .ref o3, .ref o4, .ref o5, .ref o6, .ref o7, .ref o8, .ref o9, .ref o10, .int 0, .int 0, .null, .int 0, .int 45, .ref t1, .ref t2, .ref t3, .ref t4, .ref t5])), (lr, .inr (14, [.int 0, .ref tE, .int 0])), (ld, .inr (14, [.int 0, .ref tE, .int 0]))]) [0, 1, 2] rfl
  have hKc := hK.sub (tys' := []) [] rfl
  have hDc := hD.sub (ws' := [(m0, .inr (12, [.int th, .ref lr, .ref ld, .ref o1, .int (-1), .int (-1), .int 0, .ref o2, .ref o3, .ref o4, .ref o5, .ref o6, .ref o7, .ref o8, .ref o9, .ref o10, .int 0, .int 0, .null, .int 0, .int 45, .ref t1, .ref t2, .ref t3, .ref t4, .ref t5])), (lr, .inr (14, [.int 0, .ref tE, .int 0])), (ld, .inr (14, [.int 0, .ref tE, .int 0]))]) [0, 1, 2] (by decide) rfl
  have hFc := va_free (wc := [(m0, .inr (12, [.int th, .ref lr, .ref ld, .ref o1, .int (-1), .int (-1), .int 0, .ref o2, .ref o3, .ref o4, .ref o5, .ref o6, .ref o7, .ref o8, .ref o9, .ref o10, .int 0, .int 0, .null, .int 0, .int 45, .ref t1, .ref t2, .ref t3, .ref t4, .ref t5])), (lr, .inr (14, [.int 0, .ref tE, .int 0])), (ld, .inr (14, [.int 0, .ref tE, .int 0]))]) hD hS hA [0, 1, 2] rfl
  refine va_calli (va_runV (As := [.int p1]) (rest := []) ⟨hx, hb, hml, hown, hq⟩ (c_M_isNobody l hst tE adK adV dC dI m0 lr ld o1 o2 o3 o4 o5 o6 o7 o8 o9 o10 t1 t2 t3 t4 t5 th p1 s.heap.size) (tcV 1 hq q_1837 q_12 q_1834 q_1836 qp_39 rfl rfl (by decide +kernel) ⟨Nat.le_of_ble_eq_true rfl, Nat.le_of_ble_eq_true rfl⟩) (pre.V (va_recv hK hP (ci := 12) (q0 := 0) rfl rfl) (pre.of hPc hDc hKc ham hS hFc)) rfl rfl hl.1 rfl (lv_room (Nat.le_of_ble_eq_true rfl)) dX12_roleOf_2 ⟨Nat.le_of_ble_eq_true rfl, Nat.le_of_ble_eq_true rfl⟩) hS (fun q _ h => hFc q h) hFc (fun r_1 u t H1 locs ht hvm hw hB hz1 hk1 hS => ?_)
  obtain ⟨hP1, hK1, hD1⟩ := hB
  rw [ht] at hP1
  have hK1 := va_K.moved hvm.symm hK1
  obtain ⟨hP, hD⟩ := va_join (wr := []) (w1 := [(m0, .inr (12, [.int 1, .ref lr, .ref ld, .ref o1, .int (-1), .int (-1), .int 0, .ref o2, .ref o3, .ref o4, .ref o5, .ref o6, .ref o7, .ref o8, .ref o9, .ref o10, .int 0, .int 0, .null, .int 0, .int 45, .ref t1, .ref t2, .ref t3, .ref t4, .ref t5]))]) (wc := [(m0, .inr (12, [.int th, .ref lr, .ref ld, .ref o1, .int (-1), .int (-1), .int 0, .ref o2, .ref o3, .ref o4, .ref o5, .ref o6, .ref o7, .ref o8, .ref o9, .ref o10, .int 0, .int 0, .null, .int 0, .int 45, .ref t1, .ref t2, .ref t3, .ref t4, .ref t5])), (lr, .inr (14, [.int 0, .ref tE, .int 0])), (ld, .inr (14, [.int 0, .ref tE, .int 0]))]) hP hD [0, 1, 2] [] rfl rfl (by decide) (by decide) hk1 hFc hP1 hD1
  have hK := (hK.sub (tys' := []) [] rfl).app hK1
  generalize H1 = H at hP hS ⊢
  have hP : va_P (dC, dI) cls [(m0, .inr (12, [.int 1, .ref lr, .ref ld, .ref o1, .int (-1), .int (-1), .int 0, .ref o2, .ref o3, .ref o4, .ref o5, .ref o6, .ref o7, .ref o8, .ref o9, .ref o10, .int 0, .int 0, .null, .int 0, .int 45, .ref t1, .ref t2, .ref t3, .ref t4, .ref t5]))] H := hP
  have hD : va_D A [(m0, .inr (12, [.int 1, .ref lr, .ref ld, .ref o1, .int (-1), .int (-1), .int 0, .ref o2, .ref o3, .ref o4, .ref o5, .ref o6, .ref o7, .ref o8, .ref o9, .ref o10, .int 0, .int 0, .null, .int 0, .int 45, .ref t1, .ref t2, .ref t3, .ref t4, .ref t5]))] := hD
  have hK : va_K (dC, dI) cls [] s := hK
  refine W.widen (k := 0) (n := 0) (Nat.le_of_ble_eq_true rfl) (Nat.le_of_ble_eq_true rfl) ?_
  have hw : r_1 = 1 := hw
  subst hw
  refine lv_if_eq (tgt := 12) hx hb dX12_roleOf_5 (by decide) (fun c_2 => ?_) (fun c_2 => ?_)
  · exact absurd c_2 (by decide)
  · refine lv_iconst (v := 0) hx hb dX12_roleOf_8 (by decide) ?_
    refine lv_goto (tgt := 18) hx hb dX12_roleOf_9 (by decide) ?_
    refine W.widen (k := 0) (n := 0) (Nat.le_of_ble_eq_true rfl) (Nat.le_of_ble_eq_true rfl) ?_
    have hP9 := hP.sub (ws' := [(m0, .inr (12, [.int 1, .ref lr, .ref ld, .ref o1, .int (-1), .int (-1), .int 0, .ref o2, .ref o3, .ref o4, .ref o5, .ref o6, .ref o7, .ref o8, .ref o9, .ref o10, .int 0, .int 0, .null, .int 0, .int 45, .ref t1, .ref t2, .ref t3, .ref t4, .ref t5]))]) [0] rfl
    have hD9 := hD.sub (ws' := [(m0, .inr (12, [.int 1, .ref lr, .ref ld, .ref o1, .int (-1), .int (-1), .int 0, .ref o2, .ref o3, .ref o4, .ref o5, .ref o6, .ref o7, .ref o8, .ref o9, .ref o10, .int 0, .int 0, .null, .int 0, .int 45, .ref t1, .ref t2, .ref t3, .ref t4, .ref t5]))]) [0] (by decide) rfl
    have hK9 := hK.sub (tys' := []) [] rfl
    exact W.iret (v := 0) hx hb hr (fun t ht hW => ⟨⟨0, (), rfl, trivial, ⟨by rw [ht]; exact hP9, va_K.moved hW.alike hK9, hD9⟩⟩, hS.F ht⟩) hS.2.2 dX12_roleOf_18
abbrev cX12_dealt : ByteArray := prog_13_method_40_code
def yX12_dealt : MethodName := ⟨RX12, "dealt", "(I)I"⟩
theorem dX12_dealt_0 : decode cX12_dealt 0 = .ok (.aload_n 0, 1) := by decide +kernel
theorem dX12_dealt_1 : decode cX12_dealt 1 = .ok (.aload_n 0, 1) := by decide +kernel
theorem dX12_dealt_2 : decode cX12_dealt 2 = .ok (.getfield 22, 3) := by decide +kernel
theorem dX12_dealt_5 : decode cX12_dealt 5 = .ok (.iload_n 1, 1) := by decide +kernel
theorem dX12_dealt_6 : decode cX12_dealt 6 = .ok (.invokestatic 123, 3) := by decide +kernel
theorem dX12_dealt_9 : decode cX12_dealt 9 = .ok (.ifCond .eq 7, 3) := by decide +kernel
theorem dX12_dealt_16 : decode cX12_dealt 16 = .ok (.iconst 1, 1) := by decide +kernel
theorem dX12_dealt_17 : decode cX12_dealt 17 = .ok (.invokevirtual 110, 3) := by decide +kernel
theorem dX12_dealt_20 : decode cX12_dealt 20 = .ok (.ifCond .eq 5, 3) := by decide +kernel
theorem dX12_dealt_23 : decode cX12_dealt 23 = .ok (.iconst 0, 1) := by decide +kernel
theorem dX12_dealt_24 : decode cX12_dealt 24 = .ok (.ireturn, 1) := by decide +kernel
set_option maxHeartbeats 4000000 in
set_option maxRecDepth 100000 in
theorem c_M_dealt (l : Launch) (hst : l.stackTraces = false) (tE : Nat) (adK adV : Nat → Nat) (dC : Nat → ClassId) (dI : Nat → Nat → Nat) (m0 : Nat) (lr : Nat) (ld : Nat) (o1 : Nat) (o2 : Nat) (o3 : Nat) (o4 : Nat) (o5 : Nat) (o6 : Nat) (o7 : Nat) (o8 : Nat) (o9 : Nat) (o10 : Nat) (t1 : Nat) (t2 : Nat) (t3 : Nat) (t4 : Nat) (t5 : Nat) (th : Int32) (p1 : Int32) (sz : Nat) : Met l yX12_dealt (Cond.code yX12_dealt cX12_dealt 5 (some .int) :: tw) ({ frames := 2, cells := 0, slots := 0, locals := 41 }) (va_Pc [.ref m0, .int p1] (pre tE adK adV (dC, dI) [(m0, .inr (12, [.int th, .ref lr, .ref ld, .ref o1, .int (-1), .int (-1), .int 0, .ref o2, .ref o3, .ref o4, .ref o5, .ref o6, .ref o7, .ref o8, .ref o9, .ref o10, .int 0, .int 0, .null, .int 0, .int 45, .ref t1, .ref t2, .ref t3, .ref t4, .ref t5])), (lr, .inr (14, [.int 0, .ref tE, .int 0])), (ld, .inr (14, [.int 0, .ref tE, .int 0]))] [] sz)) (va_Qi (fun (r : Int32) (_ : Unit) => True) (fun (_ : Unit) (t : State) => va_P (dC, dI) cls [(m0, .inr (12, [.int 1, .ref lr, .ref ld, .ref o1, .int (-1), .int (-1), .int 0, .ref o2, .ref o3, .ref o4, .ref o5, .ref o6, .ref o7, .ref o8, .ref o9, .ref o10, .int 0, .int 0, .null, .int 0, .int 45, .ref t1, .ref t2, .ref t3, .ref t4, .ref t5]))] t.heap ∧ va_K (dC, dI) cls [] t ∧ va_D (va_A [(m0, .inr (12, [.int th, .ref lr, .ref ld, .ref o1, .int (-1), .int (-1), .int 0, .ref o2, .ref o3, .ref o4, .ref o5, .ref o6, .ref o7, .ref o8, .ref o9, .ref o10, .int 0, .int 0, .null, .int 0, .int 45, .ref t1, .ref t2, .ref t3, .ref t4, .ref t5])), (lr, .inr (14, [.int 0, .ref tE, .int 0])), (ld, .inr (14, [.int 0, .ref tE, .int 0]))] sz) [(m0, .inr (12, [.int 1, .ref lr, .ref ld, .ref o1, .int (-1), .int (-1), .int 0, .ref o2, .ref o3, .ref o4, .ref o5, .ref o6, .ref o7, .ref o8, .ref o9, .ref o10, .int 0, .int 0, .null, .int 0, .int 45, .ref t1, .ref t2, .ref t3, .ref t4, .ref t5]))]) (va_A [(m0, .inr (12, [.int th, .ref lr, .ref ld, .ref o1, .int (-1), .int (-1), .int 0, .ref o2, .ref o3, .ref o4, .ref o5, .ref o6, .ref o7, .ref o8, .ref o9, .ref o10, .int 0, .int 0, .null, .int 0, .int 45, .ref t1, .ref t2, .ref t3, .ref t4, .ref t5])), (lr, .inr (14, [.int 0, .ref tE, .int 0])), (ld, .inr (14, [.int 0, .ref tE, .int 0]))] sz)) 0 0 (va_A [(m0, .inr (12, [.int th, .ref lr, .ref ld, .ref o1, .int (-1), .int (-1), .int 0, .ref o2, .ref o3, .ref o4, .ref o5, .ref o6, .ref o7, .ref o8, .ref o9, .ref o10, .int 0, .int 0, .null, .int 0, .int 45, .ref t1, .ref t2, .ref t3, .ref t4, .ref t5])), (lr, .inr (14, [.int 0, .ref tE, .int 0])), (ld, .inr (14, [.int 0, .ref tE, .int 0]))] sz) := by
  refine Met.ofW (cc := cX12_dealt) (maxL := 5) (ret := (some .int)) (by decide) rfl ?_
  intro p e s m args below meth c s₁ B hml hv
  obtain ⟨rfl, hsz, hP, hK, hD0, ham⟩ := hv
  have hx := B.exec
  have hb := B.bytes
  have hr := B.returns
  have hts := atoms_spec B.pre
  have hq : ∀ w ∈ tw, w.before _ s = true := fun w h => hts w (List.mem_cons_of_mem _ h)
  have hown : s.vm.findClass RX12 = some m.cls := findClass_of_methodNamed B.named
  have hlocks := B.notSynchronized
  subst hsz
  have hD := hD0.self (sz := s.heap.size)
  generalize hAe : va_A [(m0, .inr (12, [.int th, .ref lr, .ref ld, .ref o1, .int (-1), .int (-1), .int 0, .ref o2, .ref o3, .ref o4, .ref o5, .ref o6, .ref o7, .ref o8, .ref o9, .ref o10, .int 0, .int 0, .null, .int 0, .int 45, .ref t1, .ref t2, .ref t3, .ref t4, .ref t5])), (lr, .inr (14, [.int 0, .ref tE, .int 0])), (ld, .inr (14, [.int 0, .ref tE, .int 0]))] s.heap.size = A at hD ham ⊢
  have hA : ∀ q : Nat, s.heap.size ≤ q → A q := fun q h => by rw [← hAe]; exact Or.inr h
  have hS : va_S A s.heap s.heap [] := va_S.rf
  have hP : va_P (dC, dI) cls [(m0, .inr (12, [.int th, .ref lr, .ref ld, .ref o1, .int (-1), .int (-1), .int 0, .ref o2, .ref o3, .ref o4, .ref o5, .ref o6, .ref o7, .ref o8, .ref o9, .ref o10, .int 0, .int 0, .null, .int 0, .int 45, .ref t1, .ref t2, .ref t3, .ref t4, .ref t5])), (lr, .inr (14, [.int 0, .ref tE, .int 0])), (ld, .inr (14, [.int 0, .ref tE, .int 0]))] s.heap := hP
  have hl := lv_entry ([.ref m0, .int p1]) (n := 5) (Nat.le_of_ble_eq_true rfl)
  rw [lg_entry_eq]
  generalize (lg_sl ([.ref m0, .int p1]) ++ List.replicate (5 - (lg_sl ([.ref m0, .int p1])).length) Slot.unset).toArray = ls at hl ⊢
  have hl : lv_has ls 5 [(0, .ref m0), (1, .int p1)] := hl
  refine lv_aload_n hx hb dX12_dealt_0 rfl (lv_at hl 0 rfl) ?_
  refine lv_aload_n hx hb dX12_dealt_1 rfl (lv_at hl 0 rfl) ?_
  refine va_get (D := (dC, dI)) (ci := 12) (v := .ref lr) (C := RX12) (T := TX12) (N := 26) hx hb hq i_X12 hown hK hP 0 rfl rfl 1 (by decide) (hq _ q_1305) (fun _ h9 => h9) rfl dX12_dealt_2 ?_
  refine lv_iload_n hx hb dX12_dealt_5 rfl (lv_at hl 1 rfl) ?_
  have hPc := hP.sub (ws' := [(lr, .inr (14, [.int 0, .ref tE, .int 0]))]) [1] rfl
  have hKc := hK.sub (tys' := []) [] rfl
  refine va_calli (va_runS (As := [.ref lr, .int p1]) (rest := [.ref m0]) ⟨hx, hb, hml, hown, hq⟩ (c_isOf l hst tE adK adV dC dI lr p1 s.heap.size) (tcS 2 hq q_1599 q_12 q_1597 q_1598 rfl rfl (by decide +kernel) ⟨Nat.le_of_ble_eq_true rfl, Nat.le_of_ble_eq_true rfl⟩) (preR.S (preR.of hPc hKc ham hS hA)) rfl rfl hl.1 rfl (lv_room (Nat.le_of_ble_eq_true rfl)) dX12_dealt_6 ⟨Nat.le_of_ble_eq_true rfl, Nat.le_of_ble_eq_true rfl⟩) hS (fun q _ h => hA q (Nat.le_trans hS.1 h)) (fun q h => hA q (Nat.le_trans hS.1 h)) (fun r_1 u t H1 locs ht hvm hw hB hz1 hk1 hS => ?_)
  have hP : va_P (dC, dI) cls [(m0, .inr (12, [.int th, .ref lr, .ref ld, .ref o1, .int (-1), .int (-1), .int 0, .ref o2, .ref o3, .ref o4, .ref o5, .ref o6, .ref o7, .ref o8, .ref o9, .ref o10, .int 0, .int 0, .null, .int 0, .int 45, .ref t1, .ref t2, .ref t3, .ref t4, .ref t5])), (lr, .inr (14, [.int 0, .ref tE, .int 0])), (ld, .inr (14, [.int 0, .ref tE, .int 0]))] H1 := ro_keep hP hk1
  generalize H1 = H at hP hS ⊢
  refine W.widen (k := 0) (n := 0) (Nat.le_of_ble_eq_true rfl) (Nat.le_of_ble_eq_true rfl) ?_
  have hw : r_1 = 0 := hw
  subst hw
  refine lv_if_eq (tgt := 16) hx hb dX12_dealt_9 (by decide) (fun c_2 => ?_) (fun c_2 => ?_)
  · refine lv_iconst (v := 1) hx hb dX12_dealt_16 (by decide) ?_
    have hPc := hP.sub (ws' := [(m0, .inr (12, [.int th, .ref lr, .ref ld, .ref o1, .int (-1), .int (-1), .int 0, .ref o2, .ref o3, .ref o4, .ref o5, .ref o6, .ref o7, .ref o8, .ref o9, .ref o10, .int 0, .int 0, .null, .int 0, .int 45, .ref t1, .ref t2, .ref t3, .ref t4, .ref t5]))]) [0] rfl
    have hKc := hK.sub (tys' := []) [] rfl
    have hDc := hD.sub (ws' := [(m0, .inr (12, [.int th, .ref lr, .ref ld, .ref o1, .int (-1), .int (-1), .int 0, .ref o2, .ref o3, .ref o4, .ref o5, .ref o6, .ref o7, .ref o8, .ref o9, .ref o10, .int 0, .int 0, .null, .int 0, .int 45, .ref t1, .ref t2, .ref t3, .ref t4, .ref t5]))]) [0] (by decide) rfl
    have hFc := va_free (wc := [(m0, .inr (12, [.int th, .ref lr, .ref ld, .ref o1, .int (-1), .int (-1), .int 0, .ref o2, .ref o3, .ref o4, .ref o5, .ref o6, .ref o7, .ref o8, .ref o9, .ref o10, .int 0, .int 0, .null, .int 0, .int 45, .ref t1, .ref t2, .ref t3, .ref t4, .ref t5]))]) hD hS hA [0] rfl
    refine va_calli (va_runV (As := [.int 1]) (rest := []) ⟨hx, hb, hml, hown, hq⟩ (c_isWrong1 l hst tE adK adV dC dI m0 lr ld o1 o2 o3 o4 o5 o6 o7 o8 o9 o10 t1 t2 t3 t4 t5 th H.size) (tcV 1 hq q_1488 q_12 q_1485 q_1487 qp_22 rfl rfl (by decide +kernel) ⟨Nat.le_of_ble_eq_true rfl, Nat.le_of_ble_eq_true rfl⟩) (pre.V (va_recv hK hP (ci := 12) (q0 := 0) rfl rfl) (pre.of hPc hDc hKc ham hS hFc)) rfl rfl hl.1 rfl (lv_room (Nat.le_of_ble_eq_true rfl)) dX12_dealt_17 ⟨Nat.le_of_ble_eq_true rfl, Nat.le_of_ble_eq_true rfl⟩) hS (fun q _ h => hFc q h) hFc (fun r_3 u t H1 locs ht hvm hw hB hz1 hk1 hS => ?_)
    obtain ⟨hP1, hK1, hD1⟩ := hB
    rw [ht] at hP1
    have hK1 := va_K.moved hvm.symm hK1
    obtain ⟨hP, hD⟩ := va_join (wr := [(lr, .inr (14, [.int 0, .ref tE, .int 0])), (ld, .inr (14, [.int 0, .ref tE, .int 0]))]) (w1 := [(m0, .inr (12, [.int 1, .ref lr, .ref ld, .ref o1, .int (-1), .int (-1), .int 0, .ref o2, .ref o3, .ref o4, .ref o5, .ref o6, .ref o7, .ref o8, .ref o9, .ref o10, .int 0, .int 0, .null, .int 0, .int 45, .ref t1, .ref t2, .ref t3, .ref t4, .ref t5]))]) (wc := [(m0, .inr (12, [.int th, .ref lr, .ref ld, .ref o1, .int (-1), .int (-1), .int 0, .ref o2, .ref o3, .ref o4, .ref o5, .ref o6, .ref o7, .ref o8, .ref o9, .ref o10, .int 0, .int 0, .null, .int 0, .int 45, .ref t1, .ref t2, .ref t3, .ref t4, .ref t5]))]) hP hD [0] [1, 2] rfl rfl (by decide) (by decide) hk1 hFc hP1 hD1
    have hK := (hK.sub (tys' := []) [] rfl).app hK1
    generalize H1 = H at hP hS ⊢
    have hP : va_P (dC, dI) cls [(lr, .inr (14, [.int 0, .ref tE, .int 0])), (ld, .inr (14, [.int 0, .ref tE, .int 0])), (m0, .inr (12, [.int 1, .ref lr, .ref ld, .ref o1, .int (-1), .int (-1), .int 0, .ref o2, .ref o3, .ref o4, .ref o5, .ref o6, .ref o7, .ref o8, .ref o9, .ref o10, .int 0, .int 0, .null, .int 0, .int 45, .ref t1, .ref t2, .ref t3, .ref t4, .ref t5]))] H := hP
    have hD : va_D A [(lr, .inr (14, [.int 0, .ref tE, .int 0])), (ld, .inr (14, [.int 0, .ref tE, .int 0])), (m0, .inr (12, [.int 1, .ref lr, .ref ld, .ref o1, .int (-1), .int (-1), .int 0, .ref o2, .ref o3, .ref o4, .ref o5, .ref o6, .ref o7, .ref o8, .ref o9, .ref o10, .int 0, .int 0, .null, .int 0, .int 45, .ref t1, .ref t2, .ref t3, .ref t4, .ref t5]))] := hD
    have hK : va_K (dC, dI) cls [] s := hK
    refine W.widen (k := 0) (n := 0) (Nat.le_of_ble_eq_true rfl) (Nat.le_of_ble_eq_true rfl) ?_
    have hw : r_3 = 1 := hw
    subst hw
    refine lv_if_eq (tgt := 25) hx hb dX12_dealt_20 (by decide) (fun c_4 => ?_) (fun c_4 => ?_)
    · exact absurd c_4 (by decide)
    · refine lv_iconst (v := 0) hx hb dX12_dealt_23 (by decide) ?_
      refine W.widen (k := 0) (n := 0) (Nat.le_of_ble_eq_true rfl) (Nat.le_of_ble_eq_true rfl) ?_
      have hP9 := hP.sub (ws' := [(m0, .inr (12, [.int 1, .ref lr, .ref ld, .ref o1, .int (-1), .int (-1), .int 0, .ref o2, .ref o3, .ref o4, .ref o5, .ref o6, .ref o7, .ref o8, .ref o9, .ref o10, .int 0, .int 0, .null, .int 0, .int 45, .ref t1, .ref t2, .ref t3, .ref t4, .ref t5]))]) [2] rfl
      have hD9 := hD.sub (ws' := [(m0, .inr (12, [.int 1, .ref lr, .ref ld, .ref o1, .int (-1), .int (-1), .int 0, .ref o2, .ref o3, .ref o4, .ref o5, .ref o6, .ref o7, .ref o8, .ref o9, .ref o10, .int 0, .int 0, .null, .int 0, .int 45, .ref t1, .ref t2, .ref t3, .ref t4, .ref t5]))]) [2] (by decide) rfl
      have hK9 := hK.sub (tys' := []) [] rfl
      exact W.iret (v := 0) hx hb hr (fun t ht hW => ⟨⟨0, (), rfl, trivial, ⟨by rw [ht]; exact hP9, va_K.moved hW.alike hK9, hD9⟩⟩, hS.F ht⟩) hS.2.2 dX12_dealt_24
  · exact absurd c_2 (by decide)
abbrev cX12_isSilenced : ByteArray := prog_13_method_41_code
def yX12_isSilenced : MethodName := ⟨RX12, "isSilenced", "(I)Z"⟩
theorem dX12_isSilenced_0 : decode cX12_isSilenced 0 = .ok (.aload_n 0, 1) := by decide +kernel
theorem dX12_isSilenced_1 : decode cX12_isSilenced 1 = .ok (.aload_n 0, 1) := by decide +kernel
theorem dX12_isSilenced_2 : decode cX12_isSilenced 2 = .ok (.getfield 26, 3) := by decide +kernel
theorem dX12_isSilenced_5 : decode cX12_isSilenced 5 = .ok (.iload_n 1, 1) := by decide +kernel
theorem dX12_isSilenced_6 : decode cX12_isSilenced 6 = .ok (.invokestatic 123, 3) := by decide +kernel
theorem dX12_isSilenced_9 : decode cX12_isSilenced 9 = .ok (.ifCond .ne 7, 3) := by decide +kernel
theorem dX12_isSilenced_12 : decode cX12_isSilenced 12 = .ok (.iconst 1, 1) := by decide +kernel
theorem dX12_isSilenced_13 : decode cX12_isSilenced 13 = .ok (.goto 26, 3) := by decide +kernel
theorem dX12_isSilenced_39 : decode cX12_isSilenced 39 = .ok (.invokevirtual 110, 3) := by decide +kernel
theorem dX12_isSilenced_42 : decode cX12_isSilenced 42 = .ok (.ifCond .ne 16, 3) := by decide +kernel
theorem dX12_isSilenced_58 : decode cX12_isSilenced 58 = .ok (.iconst 0, 1) := by decide +kernel
theorem dX12_isSilenced_59 : decode cX12_isSilenced 59 = .ok (.ireturn, 1) := by decide +kernel
set_option maxHeartbeats 4000000 in
set_option maxRecDepth 100000 in
theorem c_M_isSilenced (l : Launch) (hst : l.stackTraces = false) (tE : Nat) (adK adV : Nat → Nat) (dC : Nat → ClassId) (dI : Nat → Nat → Nat) (m0 : Nat) (lr : Nat) (ld : Nat) (o1 : Nat) (o2 : Nat) (o3 : Nat) (o4 : Nat) (o5 : Nat) (o6 : Nat) (o7 : Nat) (o8 : Nat) (o9 : Nat) (o10 : Nat) (t1 : Nat) (t2 : Nat) (t3 : Nat) (t4 : Nat) (t5 : Nat) (th : Int32) (p1 : Int32) (sz : Nat) : Met l yX12_isSilenced (Cond.code yX12_isSilenced cX12_isSilenced 2 (some .boolean) :: tw) ({ frames := 2, cells := 0, slots := 0, locals := 41 }) (va_Pc [.ref m0, .int p1] (pre tE adK adV (dC, dI) [(m0, .inr (12, [.int th, .ref lr, .ref ld, .ref o1, .int (-1), .int (-1), .int 0, .ref o2, .ref o3, .ref o4, .ref o5, .ref o6, .ref o7, .ref o8, .ref o9, .ref o10, .int 0, .int 0, .null, .int 0, .int 45, .ref t1, .ref t2, .ref t3, .ref t4, .ref t5])), (lr, .inr (14, [.int 0, .ref tE, .int 0])), (ld, .inr (14, [.int 0, .ref tE, .int 0]))] [] sz)) (va_Qi (fun (r : Int32) (_ : Unit) => True) (fun (_ : Unit) (t : State) => va_P (dC, dI) cls [(m0, .inr (12, [.int 1, .ref lr, .ref ld, .ref o1, .int (-1), .int (-1), .int 0, .ref o2, .ref o3, .ref o4, .ref o5, .ref o6, .ref o7, .ref o8, .ref o9, .ref o10, .int 0, .int 0, .null, .int 0, .int 45, .ref t1, .ref t2, .ref t3, .ref t4, .ref t5]))] t.heap ∧ va_K (dC, dI) cls [] t ∧ va_D (va_A [(m0, .inr (12, [.int th, .ref lr, .ref ld, .ref o1, .int (-1), .int (-1), .int 0, .ref o2, .ref o3, .ref o4, .ref o5, .ref o6, .ref o7, .ref o8, .ref o9, .ref o10, .int 0, .int 0, .null, .int 0, .int 45, .ref t1, .ref t2, .ref t3, .ref t4, .ref t5])), (lr, .inr (14, [.int 0, .ref tE, .int 0])), (ld, .inr (14, [.int 0, .ref tE, .int 0]))] sz) [(m0, .inr (12, [.int 1, .ref lr, .ref ld, .ref o1, .int (-1), .int (-1), .int 0, .ref o2, .ref o3, .ref o4, .ref o5, .ref o6, .ref o7, .ref o8, .ref o9, .ref o10, .int 0, .int 0, .null, .int 0, .int 45, .ref t1, .ref t2, .ref t3, .ref t4, .ref t5]))]) (va_A [(m0, .inr (12, [.int th, .ref lr, .ref ld, .ref o1, .int (-1), .int (-1), .int 0, .ref o2, .ref o3, .ref o4, .ref o5, .ref o6, .ref o7, .ref o8, .ref o9, .ref o10, .int 0, .int 0, .null, .int 0, .int 45, .ref t1, .ref t2, .ref t3, .ref t4, .ref t5])), (lr, .inr (14, [.int 0, .ref tE, .int 0])), (ld, .inr (14, [.int 0, .ref tE, .int 0]))] sz)) 0 0 (va_A [(m0, .inr (12, [.int th, .ref lr, .ref ld, .ref o1, .int (-1), .int (-1), .int 0, .ref o2, .ref o3, .ref o4, .ref o5, .ref o6, .ref o7, .ref o8, .ref o9, .ref o10, .int 0, .int 0, .null, .int 0, .int 45, .ref t1, .ref t2, .ref t3, .ref t4, .ref t5])), (lr, .inr (14, [.int 0, .ref tE, .int 0])), (ld, .inr (14, [.int 0, .ref tE, .int 0]))] sz) := by
  refine Met.ofW (cc := cX12_isSilenced) (maxL := 2) (ret := (some .boolean)) (by decide) rfl ?_
  intro p e s m args below meth c s₁ B hml hv
  obtain ⟨rfl, hsz, hP, hK, hD0, ham⟩ := hv
  have hx := B.exec
  have hb := B.bytes
  have hr := B.returns
  have hts := atoms_spec B.pre
  have hq : ∀ w ∈ tw, w.before _ s = true := fun w h => hts w (List.mem_cons_of_mem _ h)
  have hown : s.vm.findClass RX12 = some m.cls := findClass_of_methodNamed B.named
  have hlocks := B.notSynchronized
  subst hsz
  have hD := hD0.self (sz := s.heap.size)
  generalize hAe : va_A [(m0, .inr (12, [.int th, .ref lr, .ref ld, .ref o1, .int (-1), .int (-1), .int 0, .ref o2, .ref o3, .ref o4, .ref o5, .ref o6, .ref o7, .ref o8, .ref o9, .ref o10, .int 0, .int 0, .null, .int 0, .int 45, .ref t1, .ref t2, .ref t3, .ref t4, .ref t5])), (lr, .inr (14, [.int 0, .ref tE, .int 0])), (ld, .inr (14, [.int 0, .ref tE, .int 0]))] s.heap.size = A at hD ham ⊢
  have hA : ∀ q : Nat, s.heap.size ≤ q → A q := fun q h => by rw [← hAe]; exact Or.inr h
  have hS : va_S A s.heap s.heap [] := va_S.rf
  have hP : va_P (dC, dI) cls [(m0, .inr (12, [.int th, .ref lr, .ref ld, .ref o1, .int (-1), .int (-1), .int 0, .ref o2, .ref o3, .ref o4, .ref o5, .ref o6, .ref o7, .ref o8, .ref o9, .ref o10, .int 0, .int 0, .null, .int 0, .int 45, .ref t1, .ref t2, .ref t3, .ref t4, .ref t5])), (lr, .inr (14, [.int 0, .ref tE, .int 0])), (ld, .inr (14, [.int 0, .ref tE, .int 0]))] s.heap := hP
  have hl := lv_entry ([.ref m0, .int p1]) (n := 2) (Nat.le_of_ble_eq_true rfl)
  rw [lg_entry_eq]
  generalize (lg_sl ([.ref m0, .int p1]) ++ List.replicate (2 - (lg_sl ([.ref m0, .int p1])).length) Slot.unset).toArray = ls at hl ⊢
  have hl : lv_has ls 2 [(0, .ref m0), (1, .int p1)] := hl
  refine lv_aload_n hx hb dX12_isSilenced_0 rfl (lv_at hl 0 rfl) ?_
  refine lv_aload_n hx hb dX12_isSilenced_1 rfl (lv_at hl 0 rfl) ?_
  refine va_get (D := (dC, dI)) (ci := 12) (v := .ref ld) (C := RX12) (T := TX12) (N := 26) hx hb hq i_X12 hown hK hP 0 rfl rfl 2 (by decide) (hq _ q_1306) (fun _ h9 => h9) rfl dX12_isSilenced_2 ?_
  refine lv_iload_n hx hb dX12_isSilenced_5 rfl (lv_at hl 1 rfl) ?_
  have hPc := hP.sub (ws' := [(ld, .inr (14, [.int 0, .ref tE, .int 0]))]) [2] rfl
  have hKc := hK.sub (tys' := []) [] rfl
  refine va_calli (va_runS (As := [.ref ld, .int p1]) (rest := [.ref m0]) ⟨hx, hb, hml, hown, hq⟩ (c_isOf l hst tE adK adV dC dI ld p1 s.heap.size) (tcS 2 hq q_1599 q_12 q_1597 q_1598 rfl rfl (by decide +kernel) ⟨Nat.le_of_ble_eq_true rfl, Nat.le_of_ble_eq_true rfl⟩) (preR.S (preR.of hPc hKc ham hS hA)) rfl rfl hl.1 rfl (lv_room (Nat.le_of_ble_eq_true rfl)) dX12_isSilenced_6 ⟨Nat.le_of_ble_eq_true rfl, Nat.le_of_ble_eq_true rfl⟩) hS (fun q _ h => hA q (Nat.le_trans hS.1 h)) (fun q h => hA q (Nat.le_trans hS.1 h)) (fun r_1 u t H1 locs ht hvm hw hB hz1 hk1 hS => ?_)
  have hP : va_P (dC, dI) cls [(m0, .inr (12, [.int th, .ref lr, .ref ld, .ref o1, .int (-1), .int (-1), .int 0, .ref o2, .ref o3, .ref o4, .ref o5, .ref o6, .ref o7, .ref o8, .ref o9, .ref o10, .int 0, .int 0, .null, .int 0, .int 45, .ref t1, .ref t2, .ref t3, .ref t4, .ref t5])), (lr, .inr (14, [.int 0, .ref tE, .int 0])), (ld, .inr (14, [.int 0, .ref tE, .int 0]))] H1 := ro_keep hP hk1
  generalize H1 = H at hP hS ⊢
  refine W.widen (k := 0) (n := 0) (Nat.le_of_ble_eq_true rfl) (Nat.le_of_ble_eq_true rfl) ?_
  have hw : r_1 = 0 := hw
  subst hw
  refine lv_if_ne (tgt := 16) hx hb dX12_isSilenced_9 (by decide) (fun c_2 => ?_) (fun c_2 => ?_)
  · exact absurd c_2 (by decide)
  · refine lv_iconst (v := 1) hx hb dX12_isSilenced_12 (by decide) ?_
    refine lv_goto (tgt := 39) hx hb dX12_isSilenced_13 (by decide) ?_
    have hPc := hP.sub (ws' := [(m0, .inr (12, [.int th, .ref lr, .ref ld, .ref o1, .int (-1), .int (-1), .int 0, .ref o2, .ref o3, .ref o4, .ref o5, .ref o6, .ref o7, .ref o8, .ref o9, .ref o10, .int 0, .int 0, .null, .int 0, .int 45, .ref t1, .ref t2, .ref t3, .ref t4, .ref t5]))]) [0] rfl
    have hKc := hK.sub (tys' := []) [] rfl
    have hDc := hD.sub (ws' := [(m0, .inr (12, [.int th, .ref lr, .ref ld, .ref o1, .int (-1), .int (-1), .int 0, .ref o2, .ref o3, .ref o4, .ref o5, .ref o6, .ref o7, .ref o8, .ref o9, .ref o10, .int 0, .int 0, .null, .int 0, .int 45, .ref t1, .ref t2, .ref t3, .ref t4, .ref t5]))]) [0] (by decide) rfl
    have hFc := va_free (wc := [(m0, .inr (12, [.int th, .ref lr, .ref ld, .ref o1, .int (-1), .int (-1), .int 0, .ref o2, .ref o3, .ref o4, .ref o5, .ref o6, .ref o7, .ref o8, .ref o9, .ref o10, .int 0, .int 0, .null, .int 0, .int 45, .ref t1, .ref t2, .ref t3, .ref t4, .ref t5]))]) hD hS hA [0] rfl
    refine va_calli (va_runV (As := [.int 1]) (rest := []) ⟨hx, hb, hml, hown, hq⟩ (c_isWrong1 l hst tE adK adV dC dI m0 lr ld o1 o2 o3 o4 o5 o6 o7 o8 o9 o10 t1 t2 t3 t4 t5 th H.size) (tcV 1 hq q_1488 q_12 q_1485 q_1487 qp_22 rfl rfl (by decide +kernel) ⟨Nat.le_of_ble_eq_true rfl, Nat.le_of_ble_eq_true rfl⟩) (pre.V (va_recv hK hP (ci := 12) (q0 := 0) rfl rfl) (pre.of hPc hDc hKc ham hS hFc)) rfl rfl hl.1 rfl (lv_room (Nat.le_of_ble_eq_true rfl)) dX12_isSilenced_39 ⟨Nat.le_of_ble_eq_true rfl, Nat.le_of_ble_eq_true rfl⟩) hS (fun q _ h => hFc q h) hFc (fun r_3 u t H1 locs ht hvm hw hB hz1 hk1 hS => ?_)
    obtain ⟨hP1, hK1, hD1⟩ := hB
    rw [ht] at hP1
    have hK1 := va_K.moved hvm.symm hK1
    obtain ⟨hP, hD⟩ := va_join (wr := [(lr, .inr (14, [.int 0, .ref tE, .int 0])), (ld, .inr (14, [.int 0, .ref tE, .int 0]))]) (w1 := [(m0, .inr (12, [.int 1, .ref lr, .ref ld, .ref o1, .int (-1), .int (-1), .int 0, .ref o2, .ref o3, .ref o4, .ref o5, .ref o6, .ref o7, .ref o8, .ref o9, .ref o10, .int 0, .int 0, .null, .int 0, .int 45, .ref t1, .ref t2, .ref t3, .ref t4, .ref t5]))]) (wc := [(m0, .inr (12, [.int th, .ref lr, .ref ld, .ref o1, .int (-1), .int (-1), .int 0, .ref o2, .ref o3, .ref o4, .ref o5, .ref o6, .ref o7, .ref o8, .ref o9, .ref o10, .int 0, .int 0, .null, .int 0, .int 45, .ref t1, .ref t2, .ref t3, .ref t4, .ref t5]))]) hP hD [0] [1, 2] rfl rfl (by decide) (by decide) hk1 hFc hP1 hD1
    have hK := (hK.sub (tys' := []) [] rfl).app hK1
    generalize H1 = H at hP hS ⊢
    have hP : va_P (dC, dI) cls [(lr, .inr (14, [.int 0, .ref tE, .int 0])), (ld, .inr (14, [.int 0, .ref tE, .int 0])), (m0, .inr (12, [.int 1, .ref lr, .ref ld, .ref o1, .int (-1), .int (-1), .int 0, .ref o2, .ref o3, .ref o4, .ref o5, .ref o6, .ref o7, .ref o8, .ref o9, .ref o10, .int 0, .int 0, .null, .int 0, .int 45, .ref t1, .ref t2, .ref t3, .ref t4, .ref t5]))] H := hP
    have hD : va_D A [(lr, .inr (14, [.int 0, .ref tE, .int 0])), (ld, .inr (14, [.int 0, .ref tE, .int 0])), (m0, .inr (12, [.int 1, .ref lr, .ref ld, .ref o1, .int (-1), .int (-1), .int 0, .ref o2, .ref o3, .ref o4, .ref o5, .ref o6, .ref o7, .ref o8, .ref o9, .ref o10, .int 0, .int 0, .null, .int 0, .int 45, .ref t1, .ref t2, .ref t3, .ref t4, .ref t5]))] := hD
    have hK : va_K (dC, dI) cls [] s := hK
    refine W.widen (k := 0) (n := 0) (Nat.le_of_ble_eq_true rfl) (Nat.le_of_ble_eq_true rfl) ?_
    have hw : r_3 = 1 := hw
    subst hw
    refine lv_if_ne (tgt := 58) hx hb dX12_isSilenced_42 (by decide) (fun c_4 => ?_) (fun c_4 => ?_)
    · refine lv_iconst (v := 0) hx hb dX12_isSilenced_58 (by decide) ?_
      refine W.widen (k := 0) (n := 0) (Nat.le_of_ble_eq_true rfl) (Nat.le_of_ble_eq_true rfl) ?_
      have hP9 := hP.sub (ws' := [(m0, .inr (12, [.int 1, .ref lr, .ref ld, .ref o1, .int (-1), .int (-1), .int 0, .ref o2, .ref o3, .ref o4, .ref o5, .ref o6, .ref o7, .ref o8, .ref o9, .ref o10, .int 0, .int 0, .null, .int 0, .int 45, .ref t1, .ref t2, .ref t3, .ref t4, .ref t5]))]) [2] rfl
      have hD9 := hD.sub (ws' := [(m0, .inr (12, [.int 1, .ref lr, .ref ld, .ref o1, .int (-1), .int (-1), .int 0, .ref o2, .ref o3, .ref o4, .ref o5, .ref o6, .ref o7, .ref o8, .ref o9, .ref o10, .int 0, .int 0, .null, .int 0, .int 45, .ref t1, .ref t2, .ref t3, .ref t4, .ref t5]))]) [2] (by decide) rfl
      have hK9 := hK.sub (tys' := []) [] rfl
      exact W.zret (v := 0) hx hb hr (by decide) (fun t ht hW => ⟨⟨0, (), rfl, trivial, ⟨by rw [ht]; exact hP9, va_K.moved hW.alike hK9, hD9⟩⟩, hS.F ht⟩) hS.2.2 dX12_isSilenced_59
    · exact absurd c_4 (by decide)
abbrev cX12_hasGhostVote : ByteArray := prog_13_method_42_code
def yX12_hasGhostVote : MethodName := ⟨RX12, "hasGhostVote", "(I)Z"⟩
theorem dX12_hasGhostVote_0 : decode cX12_hasGhostVote 0 = .ok (.aload_n 0, 1) := by decide +kernel
theorem dX12_hasGhostVote_1 : decode cX12_hasGhostVote 1 = .ok (.aload_n 0, 1) := by decide +kernel
theorem dX12_hasGhostVote_2 : decode cX12_hasGhostVote 2 = .ok (.getfield 26, 3) := by decide +kernel
theorem dX12_hasGhostVote_5 : decode cX12_hasGhostVote 5 = .ok (.iload_n 1, 1) := by decide +kernel
theorem dX12_hasGhostVote_6 : decode cX12_hasGhostVote 6 = .ok (.invokestatic 123, 3) := by decide +kernel
theorem dX12_hasGhostVote_9 : decode cX12_hasGhostVote 9 = .ok (.ifCond .ne 7, 3) := by decide +kernel
theorem dX12_hasGhostVote_12 : decode cX12_hasGhostVote 12 = .ok (.iconst 1, 1) := by decide +kernel
theorem dX12_hasGhostVote_13 : decode cX12_hasGhostVote 13 = .ok (.goto 16, 3) := by decide +kernel
theorem dX12_hasGhostVote_29 : decode cX12_hasGhostVote 29 = .ok (.invokevirtual 110, 3) := by decide +kernel
theorem dX12_hasGhostVote_32 : decode cX12_hasGhostVote 32 = .ok (.ifCond .eq 5, 3) := by decide +kernel
theorem dX12_hasGhostVote_35 : decode cX12_hasGhostVote 35 = .ok (.iconst 0, 1) := by decide +kernel
theorem dX12_hasGhostVote_36 : decode cX12_hasGhostVote 36 = .ok (.ireturn, 1) := by decide +kernel
set_option maxHeartbeats 4000000 in
set_option maxRecDepth 100000 in
theorem c_M_hasGhostVote (l : Launch) (hst : l.stackTraces = false) (tE : Nat) (adK adV : Nat → Nat) (dC : Nat → ClassId) (dI : Nat → Nat → Nat) (m0 : Nat) (lr : Nat) (ld : Nat) (o1 : Nat) (o2 : Nat) (o3 : Nat) (o4 : Nat) (o5 : Nat) (o6 : Nat) (o7 : Nat) (o8 : Nat) (o9 : Nat) (o10 : Nat) (t1 : Nat) (t2 : Nat) (t3 : Nat) (t4 : Nat) (t5 : Nat) (th : Int32) (p1 : Int32) (sz : Nat) : Met l yX12_hasGhostVote (Cond.code yX12_hasGhostVote cX12_hasGhostVote 2 (some .boolean) :: tw) ({ frames := 2, cells := 0, slots := 0, locals := 41 }) (va_Pc [.ref m0, .int p1] (pre tE adK adV (dC, dI) [(m0, .inr (12, [.int th, .ref lr, .ref ld, .ref o1, .int (-1), .int (-1), .int 0, .ref o2, .ref o3, .ref o4, .ref o5, .ref o6, .ref o7, .ref o8, .ref o9, .ref o10, .int 0, .int 0, .null, .int 0, .int 45, .ref t1, .ref t2, .ref t3, .ref t4, .ref t5])), (lr, .inr (14, [.int 0, .ref tE, .int 0])), (ld, .inr (14, [.int 0, .ref tE, .int 0]))] [] sz)) (va_Qi (fun (r : Int32) (_ : Unit) => True) (fun (_ : Unit) (t : State) => va_P (dC, dI) cls [(m0, .inr (12, [.int 1, .ref lr, .ref ld, .ref o1, .int (-1), .int (-1), .int 0, .ref o2, .ref o3, .ref o4, .ref o5, .ref o6, .ref o7, .ref o8, .ref o9, .ref o10, .int 0, .int 0, .null, .int 0, .int 45, .ref t1, .ref t2, .ref t3, .ref t4, .ref t5]))] t.heap ∧ va_K (dC, dI) cls [] t ∧ va_D (va_A [(m0, .inr (12, [.int th, .ref lr, .ref ld, .ref o1, .int (-1), .int (-1), .int 0, .ref o2, .ref o3, .ref o4, .ref o5, .ref o6, .ref o7, .ref o8, .ref o9, .ref o10, .int 0, .int 0, .null, .int 0, .int 45, .ref t1, .ref t2, .ref t3, .ref t4, .ref t5])), (lr, .inr (14, [.int 0, .ref tE, .int 0])), (ld, .inr (14, [.int 0, .ref tE, .int 0]))] sz) [(m0, .inr (12, [.int 1, .ref lr, .ref ld, .ref o1, .int (-1), .int (-1), .int 0, .ref o2, .ref o3, .ref o4, .ref o5, .ref o6, .ref o7, .ref o8, .ref o9, .ref o10, .int 0, .int 0, .null, .int 0, .int 45, .ref t1, .ref t2, .ref t3, .ref t4, .ref t5]))]) (va_A [(m0, .inr (12, [.int th, .ref lr, .ref ld, .ref o1, .int (-1), .int (-1), .int 0, .ref o2, .ref o3, .ref o4, .ref o5, .ref o6, .ref o7, .ref o8, .ref o9, .ref o10, .int 0, .int 0, .null, .int 0, .int 45, .ref t1, .ref t2, .ref t3, .ref t4, .ref t5])), (lr, .inr (14, [.int 0, .ref tE, .int 0])), (ld, .inr (14, [.int 0, .ref tE, .int 0]))] sz)) 0 0 (va_A [(m0, .inr (12, [.int th, .ref lr, .ref ld, .ref o1, .int (-1), .int (-1), .int 0, .ref o2, .ref o3, .ref o4, .ref o5, .ref o6, .ref o7, .ref o8, .ref o9, .ref o10, .int 0, .int 0, .null, .int 0, .int 45, .ref t1, .ref t2, .ref t3, .ref t4, .ref t5])), (lr, .inr (14, [.int 0, .ref tE, .int 0])), (ld, .inr (14, [.int 0, .ref tE, .int 0]))] sz) := by
  refine Met.ofW (cc := cX12_hasGhostVote) (maxL := 2) (ret := (some .boolean)) (by decide) rfl ?_
  intro p e s m args below meth c s₁ B hml hv
  obtain ⟨rfl, hsz, hP, hK, hD0, ham⟩ := hv
  have hx := B.exec
  have hb := B.bytes
  have hr := B.returns
  have hts := atoms_spec B.pre
  have hq : ∀ w ∈ tw, w.before _ s = true := fun w h => hts w (List.mem_cons_of_mem _ h)
  have hown : s.vm.findClass RX12 = some m.cls := findClass_of_methodNamed B.named
  have hlocks := B.notSynchronized
  subst hsz
  have hD := hD0.self (sz := s.heap.size)
  generalize hAe : va_A [(m0, .inr (12, [.int th, .ref lr, .ref ld, .ref o1, .int (-1), .int (-1), .int 0, .ref o2, .ref o3, .ref o4, .ref o5, .ref o6, .ref o7, .ref o8, .ref o9, .ref o10, .int 0, .int 0, .null, .int 0, .int 45, .ref t1, .ref t2, .ref t3, .ref t4, .ref t5])), (lr, .inr (14, [.int 0, .ref tE, .int 0])), (ld, .inr (14, [.int 0, .ref tE, .int 0]))] s.heap.size = A at hD ham ⊢
  have hA : ∀ q : Nat, s.heap.size ≤ q → A q := fun q h => by rw [← hAe]; exact Or.inr h
  have hS : va_S A s.heap s.heap [] := va_S.rf
  have hP : va_P (dC, dI) cls [(m0, .inr (12, [.int th, .ref lr, .ref ld, .ref o1, .int (-1), .int (-1), .int 0, .ref o2, .ref o3, .ref o4, .ref o5, .ref o6, .ref o7, .ref o8, .ref o9, .ref o10, .int 0, .int 0, .null, .int 0, .int 45, .ref t1, .ref t2, .ref t3, .ref t4, .ref t5])), (lr, .inr (14, [.int 0, .ref tE, .int 0])), (ld, .inr (14, [.int 0, .ref tE, .int 0]))] s.heap := hP
  have hl := lv_entry ([.ref m0, .int p1]) (n := 2) (Nat.le_of_ble_eq_true rfl)
  rw [lg_entry_eq]
  generalize (lg_sl ([.ref m0, .int p1]) ++ List.replicate (2 - (lg_sl ([.ref m0, .int p1])).length) Slot.unset).toArray = ls at hl ⊢
  have hl : lv_has ls 2 [(0, .ref m0), (1, .int p1)] := hl
  refine lv_aload_n hx hb dX12_hasGhostVote_0 rfl (lv_at hl 0 rfl) ?_
  refine lv_aload_n hx hb dX12_hasGhostVote_1 rfl (lv_at hl 0 rfl) ?_
  refine va_get (D := (dC, dI)) (ci := 12) (v := .ref ld) (C := RX12) (T := TX12) (N := 26) hx hb hq i_X12 hown hK hP 0 rfl rfl 2 (by decide) (hq _ q_1306) (fun _ h9 => h9) rfl dX12_hasGhostVote_2 ?_
  refine lv_iload_n hx hb dX12_hasGhostVote_5 rfl (lv_at hl 1 rfl) ?_
  have hPc := hP.sub (ws' := [(ld, .inr (14, [.int 0, .ref tE, .int 0]))]) [2] rfl
  have hKc := hK.sub (tys' := []) [] rfl
  refine va_calli (va_runS (As := [.ref ld, .int p1]) (rest := [.ref m0]) ⟨hx, hb, hml, hown, hq⟩ (c_isOf l hst tE adK adV dC dI ld p1 s.heap.size) (tcS 2 hq q_1599 q_12 q_1597 q_1598 rfl rfl (by decide +kernel) ⟨Nat.le_of_ble_eq_true rfl, Nat.le_of_ble_eq_true rfl⟩) (preR.S (preR.of hPc hKc ham hS hA)) rfl rfl hl.1 rfl (lv_room (Nat.le_of_ble_eq_true rfl)) dX12_hasGhostVote_6 ⟨Nat.le_of_ble_eq_true rfl, Nat.le_of_ble_eq_true rfl⟩) hS (fun q _ h => hA q (Nat.le_trans hS.1 h)) (fun q h => hA q (Nat.le_trans hS.1 h)) (fun r_1 u t H1 locs ht hvm hw hB hz1 hk1 hS => ?_)
  have hP : va_P (dC, dI) cls [(m0, .inr (12, [.int th, .ref lr, .ref ld, .ref o1, .int (-1), .int (-1), .int 0, .ref o2, .ref o3, .ref o4, .ref o5, .ref o6, .ref o7, .ref o8, .ref o9, .ref o10, .int 0, .int 0, .null, .int 0, .int 45, .ref t1, .ref t2, .ref t3, .ref t4, .ref t5])), (lr, .inr (14, [.int 0, .ref tE, .int 0])), (ld, .inr (14, [.int 0, .ref tE, .int 0]))] H1 := ro_keep hP hk1
  generalize H1 = H at hP hS ⊢
  refine W.widen (k := 0) (n := 0) (Nat.le_of_ble_eq_true rfl) (Nat.le_of_ble_eq_true rfl) ?_
  have hw : r_1 = 0 := hw
  subst hw
  refine lv_if_ne (tgt := 16) hx hb dX12_hasGhostVote_9 (by decide) (fun c_2 => ?_) (fun c_2 => ?_)
  · exact absurd c_2 (by decide)
  · refine lv_iconst (v := 1) hx hb dX12_hasGhostVote_12 (by decide) ?_
    refine lv_goto (tgt := 29) hx hb dX12_hasGhostVote_13 (by decide) ?_
    have hPc := hP.sub (ws' := [(m0, .inr (12, [.int th, .ref lr, .ref ld, .ref o1, .int (-1), .int (-1), .int 0, .ref o2, .ref o3, .ref o4, .ref o5, .ref o6, .ref o7, .ref o8, .ref o9, .ref o10, .int 0, .int 0, .null, .int 0, .int 45, .ref t1, .ref t2, .ref t3, .ref t4, .ref t5]))]) [0] rfl
    have hKc := hK.sub (tys' := []) [] rfl
    have hDc := hD.sub (ws' := [(m0, .inr (12, [.int th, .ref lr, .ref ld, .ref o1, .int (-1), .int (-1), .int 0, .ref o2, .ref o3, .ref o4, .ref o5, .ref o6, .ref o7, .ref o8, .ref o9, .ref o10, .int 0, .int 0, .null, .int 0, .int 45, .ref t1, .ref t2, .ref t3, .ref t4, .ref t5]))]) [0] (by decide) rfl
    have hFc := va_free (wc := [(m0, .inr (12, [.int th, .ref lr, .ref ld, .ref o1, .int (-1), .int (-1), .int 0, .ref o2, .ref o3, .ref o4, .ref o5, .ref o6, .ref o7, .ref o8, .ref o9, .ref o10, .int 0, .int 0, .null, .int 0, .int 45, .ref t1, .ref t2, .ref t3, .ref t4, .ref t5]))]) hD hS hA [0] rfl
    refine va_calli (va_runV (As := [.int 1]) (rest := []) ⟨hx, hb, hml, hown, hq⟩ (c_isWrong1 l hst tE adK adV dC dI m0 lr ld o1 o2 o3 o4 o5 o6 o7 o8 o9 o10 t1 t2 t3 t4 t5 th H.size) (tcV 1 hq q_1488 q_12 q_1485 q_1487 qp_22 rfl rfl (by decide +kernel) ⟨Nat.le_of_ble_eq_true rfl, Nat.le_of_ble_eq_true rfl⟩) (pre.V (va_recv hK hP (ci := 12) (q0 := 0) rfl rfl) (pre.of hPc hDc hKc ham hS hFc)) rfl rfl hl.1 rfl (lv_room (Nat.le_of_ble_eq_true rfl)) dX12_hasGhostVote_29 ⟨Nat.le_of_ble_eq_true rfl, Nat.le_of_ble_eq_true rfl⟩) hS (fun q _ h => hFc q h) hFc (fun r_3 u t H1 locs ht hvm hw hB hz1 hk1 hS => ?_)
    obtain ⟨hP1, hK1, hD1⟩ := hB
    rw [ht] at hP1
    have hK1 := va_K.moved hvm.symm hK1
    obtain ⟨hP, hD⟩ := va_join (wr := [(lr, .inr (14, [.int 0, .ref tE, .int 0])), (ld, .inr (14, [.int 0, .ref tE, .int 0]))]) (w1 := [(m0, .inr (12, [.int 1, .ref lr, .ref ld, .ref o1, .int (-1), .int (-1), .int 0, .ref o2, .ref o3, .ref o4, .ref o5, .ref o6, .ref o7, .ref o8, .ref o9, .ref o10, .int 0, .int 0, .null, .int 0, .int 45, .ref t1, .ref t2, .ref t3, .ref t4, .ref t5]))]) (wc := [(m0, .inr (12, [.int th, .ref lr, .ref ld, .ref o1, .int (-1), .int (-1), .int 0, .ref o2, .ref o3, .ref o4, .ref o5, .ref o6, .ref o7, .ref o8, .ref o9, .ref o10, .int 0, .int 0, .null, .int 0, .int 45, .ref t1, .ref t2, .ref t3, .ref t4, .ref t5]))]) hP hD [0] [1, 2] rfl rfl (by decide) (by decide) hk1 hFc hP1 hD1
    have hK := (hK.sub (tys' := []) [] rfl).app hK1
    generalize H1 = H at hP hS ⊢
    have hP : va_P (dC, dI) cls [(lr, .inr (14, [.int 0, .ref tE, .int 0])), (ld, .inr (14, [.int 0, .ref tE, .int 0])), (m0, .inr (12, [.int 1, .ref lr, .ref ld, .ref o1, .int (-1), .int (-1), .int 0, .ref o2, .ref o3, .ref o4, .ref o5, .ref o6, .ref o7, .ref o8, .ref o9, .ref o10, .int 0, .int 0, .null, .int 0, .int 45, .ref t1, .ref t2, .ref t3, .ref t4, .ref t5]))] H := hP
    have hD : va_D A [(lr, .inr (14, [.int 0, .ref tE, .int 0])), (ld, .inr (14, [.int 0, .ref tE, .int 0])), (m0, .inr (12, [.int 1, .ref lr, .ref ld, .ref o1, .int (-1), .int (-1), .int 0, .ref o2, .ref o3, .ref o4, .ref o5, .ref o6, .ref o7, .ref o8, .ref o9, .ref o10, .int 0, .int 0, .null, .int 0, .int 45, .ref t1, .ref t2, .ref t3, .ref t4, .ref t5]))] := hD
    have hK : va_K (dC, dI) cls [] s := hK
    refine W.widen (k := 0) (n := 0) (Nat.le_of_ble_eq_true rfl) (Nat.le_of_ble_eq_true rfl) ?_
    have hw : r_3 = 1 := hw
    subst hw
    refine lv_if_eq (tgt := 37) hx hb dX12_hasGhostVote_32 (by decide) (fun c_4 => ?_) (fun c_4 => ?_)
    · exact absurd c_4 (by decide)
    · refine lv_iconst (v := 0) hx hb dX12_hasGhostVote_35 (by decide) ?_
      refine W.widen (k := 0) (n := 0) (Nat.le_of_ble_eq_true rfl) (Nat.le_of_ble_eq_true rfl) ?_
      have hP9 := hP.sub (ws' := [(m0, .inr (12, [.int 1, .ref lr, .ref ld, .ref o1, .int (-1), .int (-1), .int 0, .ref o2, .ref o3, .ref o4, .ref o5, .ref o6, .ref o7, .ref o8, .ref o9, .ref o10, .int 0, .int 0, .null, .int 0, .int 45, .ref t1, .ref t2, .ref t3, .ref t4, .ref t5]))]) [2] rfl
      have hD9 := hD.sub (ws' := [(m0, .inr (12, [.int 1, .ref lr, .ref ld, .ref o1, .int (-1), .int (-1), .int 0, .ref o2, .ref o3, .ref o4, .ref o5, .ref o6, .ref o7, .ref o8, .ref o9, .ref o10, .int 0, .int 0, .null, .int 0, .int 45, .ref t1, .ref t2, .ref t3, .ref t4, .ref t5]))]) [2] (by decide) rfl
      have hK9 := hK.sub (tys' := []) [] rfl
      exact W.zret (v := 0) hx hb hr (by decide) (fun t ht hW => ⟨⟨0, (), rfl, trivial, ⟨by rw [ht]; exact hP9, va_K.moved hW.alike hK9, hD9⟩⟩, hS.F ht⟩) hS.2.2 dX12_hasGhostVote_36
abbrev cX12_score : ByteArray := prog_13_method_44_code
def yX12_score : MethodName := ⟨RX12, "score", "(I)I"⟩
theorem dX12_score_0 : decode cX12_score 0 = .ok (.aload_n 0, 1) := by decide +kernel
theorem dX12_score_1 : decode cX12_score 1 = .ok (.aload_n 0, 1) := by decide +kernel
theorem dX12_score_2 : decode cX12_score 2 = .ok (.getfield 26, 3) := by decide +kernel
theorem dX12_score_5 : decode cX12_score 5 = .ok (.iload_n 1, 1) := by decide +kernel
theorem dX12_score_6 : decode cX12_score 6 = .ok (.invokestatic 123, 3) := by decide +kernel
theorem dX12_score_9 : decode cX12_score 9 = .ok (.ifCond .ne 7, 3) := by decide +kernel
theorem dX12_score_12 : decode cX12_score 12 = .ok (.iconst 1, 1) := by decide +kernel
theorem dX12_score_13 : decode cX12_score 13 = .ok (.goto 15, 3) := by decide +kernel
theorem dX12_score_28 : decode cX12_score 28 = .ok (.invokevirtual 110, 3) := by decide +kernel
theorem dX12_score_31 : decode cX12_score 31 = .ok (.ifCond .eq 5, 3) := by decide +kernel
theorem dX12_score_34 : decode cX12_score 34 = .ok (.iconst 0, 1) := by decide +kernel
theorem dX12_score_35 : decode cX12_score 35 = .ok (.ireturn, 1) := by decide +kernel
set_option maxHeartbeats 4000000 in
set_option maxRecDepth 100000 in
theorem c_M_score (l : Launch) (hst : l.stackTraces = false) (tE : Nat) (adK adV : Nat → Nat) (dC : Nat → ClassId) (dI : Nat → Nat → Nat) (m0 : Nat) (lr : Nat) (ld : Nat) (o1 : Nat) (o2 : Nat) (o3 : Nat) (o4 : Nat) (o5 : Nat) (o6 : Nat) (o7 : Nat) (o8 : Nat) (o9 : Nat) (o10 : Nat) (t1 : Nat) (t2 : Nat) (t3 : Nat) (t4 : Nat) (t5 : Nat) (th : Int32) (p1 : Int32) (sz : Nat) : Met l yX12_score (Cond.code yX12_score cX12_score 2 (some .int) :: tw) ({ frames := 2, cells := 0, slots := 0, locals := 41 }) (va_Pc [.ref m0, .int p1] (pre tE adK adV (dC, dI) [(m0, .inr (12, [.int th, .ref lr, .ref ld, .ref o1, .int (-1), .int (-1), .int 0, .ref o2, .ref o3, .ref o4, .ref o5, .ref o6, .ref o7, .ref o8, .ref o9, .ref o10, .int 0, .int 0, .null, .int 0, .int 45, .ref t1, .ref t2, .ref t3, .ref t4, .ref t5])), (lr, .inr (14, [.int 0, .ref tE, .int 0])), (ld, .inr (14, [.int 0, .ref tE, .int 0]))] [] sz)) (va_Qi (fun (r : Int32) (_ : Unit) => True) (fun (_ : Unit) (t : State) => va_P (dC, dI) cls [(m0, .inr (12, [.int 1, .ref lr, .ref ld, .ref o1, .int (-1), .int (-1), .int 0, .ref o2, .ref o3, .ref o4, .ref o5, .ref o6, .ref o7, .ref o8, .ref o9, .ref o10, .int 0, .int 0, .null, .int 0, .int 45, .ref t1, .ref t2, .ref t3, .ref t4, .ref t5]))] t.heap ∧ va_K (dC, dI) cls [] t ∧ va_D (va_A [(m0, .inr (12, [.int th, .ref lr, .ref ld, .ref o1, .int (-1), .int (-1), .int 0, .ref o2, .ref o3, .ref o4, .ref o5, .ref o6, .ref o7, .ref o8, .ref o9, .ref o10, .int 0, .int 0, .null, .int 0, .int 45, .ref t1, .ref t2, .ref t3, .ref t4, .ref t5])), (lr, .inr (14, [.int 0, .ref tE, .int 0])), (ld, .inr (14, [.int 0, .ref tE, .int 0]))] sz) [(m0, .inr (12, [.int 1, .ref lr, .ref ld, .ref o1, .int (-1), .int (-1), .int 0, .ref o2, .ref o3, .ref o4, .ref o5, .ref o6, .ref o7, .ref o8, .ref o9, .ref o10, .int 0, .int 0, .null, .int 0, .int 45, .ref t1, .ref t2, .ref t3, .ref t4, .ref t5]))]) (va_A [(m0, .inr (12, [.int th, .ref lr, .ref ld, .ref o1, .int (-1), .int (-1), .int 0, .ref o2, .ref o3, .ref o4, .ref o5, .ref o6, .ref o7, .ref o8, .ref o9, .ref o10, .int 0, .int 0, .null, .int 0, .int 45, .ref t1, .ref t2, .ref t3, .ref t4, .ref t5])), (lr, .inr (14, [.int 0, .ref tE, .int 0])), (ld, .inr (14, [.int 0, .ref tE, .int 0]))] sz)) 0 0 (va_A [(m0, .inr (12, [.int th, .ref lr, .ref ld, .ref o1, .int (-1), .int (-1), .int 0, .ref o2, .ref o3, .ref o4, .ref o5, .ref o6, .ref o7, .ref o8, .ref o9, .ref o10, .int 0, .int 0, .null, .int 0, .int 45, .ref t1, .ref t2, .ref t3, .ref t4, .ref t5])), (lr, .inr (14, [.int 0, .ref tE, .int 0])), (ld, .inr (14, [.int 0, .ref tE, .int 0]))] sz) := by
  refine Met.ofW (cc := cX12_score) (maxL := 2) (ret := (some .int)) (by decide) rfl ?_
  intro p e s m args below meth c s₁ B hml hv
  obtain ⟨rfl, hsz, hP, hK, hD0, ham⟩ := hv
  have hx := B.exec
  have hb := B.bytes
  have hr := B.returns
  have hts := atoms_spec B.pre
  have hq : ∀ w ∈ tw, w.before _ s = true := fun w h => hts w (List.mem_cons_of_mem _ h)
  have hown : s.vm.findClass RX12 = some m.cls := findClass_of_methodNamed B.named
  have hlocks := B.notSynchronized
  subst hsz
  have hD := hD0.self (sz := s.heap.size)
  generalize hAe : va_A [(m0, .inr (12, [.int th, .ref lr, .ref ld, .ref o1, .int (-1), .int (-1), .int 0, .ref o2, .ref o3, .ref o4, .ref o5, .ref o6, .ref o7, .ref o8, .ref o9, .ref o10, .int 0, .int 0, .null, .int 0, .int 45, .ref t1, .ref t2, .ref t3, .ref t4, .ref t5])), (lr, .inr (14, [.int 0, .ref tE, .int 0])), (ld, .inr (14, [.int 0, .ref tE, .int 0]))] s.heap.size = A at hD ham ⊢
  have hA : ∀ q : Nat, s.heap.size ≤ q → A q := fun q h => by rw [← hAe]; exact Or.inr h
  have hS : va_S A s.heap s.heap [] := va_S.rf
  have hP : va_P (dC, dI) cls [(m0, .inr (12, [.int th, .ref lr, .ref ld, .ref o1, .int (-1), .int (-1), .int 0, .ref o2, .ref o3, .ref o4, .ref o5, .ref o6, .ref o7, .ref o8, .ref o9, .ref o10, .int 0, .int 0, .null, .int 0, .int 45, .ref t1, .ref t2, .ref t3, .ref t4, .ref t5])), (lr, .inr (14, [.int 0, .ref tE, .int 0])), (ld, .inr (14, [.int 0, .ref tE, .int 0]))] s.heap := hP
  have hl := lv_entry ([.ref m0, .int p1]) (n := 2) (Nat.le_of_ble_eq_true rfl)
  rw [lg_entry_eq]
  generalize (lg_sl ([.ref m0, .int p1]) ++ List.replicate (2 - (lg_sl ([.ref m0, .int p1])).length) Slot.unset).toArray = ls at hl ⊢
  have hl : lv_has ls 2 [(0, .ref m0), (1, .int p1)] := hl
  refine lv_aload_n hx hb dX12_score_0 rfl (lv_at hl 0 rfl) ?_
  refine lv_aload_n hx hb dX12_score_1 rfl (lv_at hl 0 rfl) ?_
  refine va_get (D := (dC, dI)) (ci := 12) (v := .ref ld) (C := RX12) (T := TX12) (N := 26) hx hb hq i_X12 hown hK hP 0 rfl rfl 2 (by decide) (hq _ q_1306) (fun _ h9 => h9) rfl dX12_score_2 ?_
  refine lv_iload_n hx hb dX12_score_5 rfl (lv_at hl 1 rfl) ?_
  have hPc := hP.sub (ws' := [(ld, .inr (14, [.int 0, .ref tE, .int 0]))]) [2] rfl
  have hKc := hK.sub (tys' := []) [] rfl
  refine va_calli (va_runS (As := [.ref ld, .int p1]) (rest := [.ref m0]) ⟨hx, hb, hml, hown, hq⟩ (c_isOf l hst tE adK adV dC dI ld p1 s.heap.size) (tcS 2 hq q_1599 q_12 q_1597 q_1598 rfl rfl (by decide +kernel) ⟨Nat.le_of_ble_eq_true rfl, Nat.le_of_ble_eq_true rfl⟩) (preR.S (preR.of hPc hKc ham hS hA)) rfl rfl hl.1 rfl (lv_room (Nat.le_of_ble_eq_true rfl)) dX12_score_6 ⟨Nat.le_of_ble_eq_true rfl, Nat.le_of_ble_eq_true rfl⟩) hS (fun q _ h => hA q (Nat.le_trans hS.1 h)) (fun q h => hA q (Nat.le_trans hS.1 h)) (fun r_1 u t H1 locs ht hvm hw hB hz1 hk1 hS => ?_)
  have hP : va_P (dC, dI) cls [(m0, .inr (12, [.int th, .ref lr, .ref ld, .ref o1, .int (-1), .int (-1), .int 0, .ref o2, .ref o3, .ref o4, .ref o5, .ref o6, .ref o7, .ref o8, .ref o9, .ref o10, .int 0, .int 0, .null, .int 0, .int 45, .ref t1, .ref t2, .ref t3, .ref t4, .ref t5])), (lr, .inr (14, [.int 0, .ref tE, .int 0])), (ld, .inr (14, [.int 0, .ref tE, .int 0]))] H1 := ro_keep hP hk1
  generalize H1 = H at hP hS ⊢
  refine W.widen (k := 0) (n := 0) (Nat.le_of_ble_eq_true rfl) (Nat.le_of_ble_eq_true rfl) ?_
  have hw : r_1 = 0 := hw
  subst hw
  refine lv_if_ne (tgt := 16) hx hb dX12_score_9 (by decide) (fun c_2 => ?_) (fun c_2 => ?_)
  · exact absurd c_2 (by decide)
  · refine lv_iconst (v := 1) hx hb dX12_score_12 (by decide) ?_
    refine lv_goto (tgt := 28) hx hb dX12_score_13 (by decide) ?_
    have hPc := hP.sub (ws' := [(m0, .inr (12, [.int th, .ref lr, .ref ld, .ref o1, .int (-1), .int (-1), .int 0, .ref o2, .ref o3, .ref o4, .ref o5, .ref o6, .ref o7, .ref o8, .ref o9, .ref o10, .int 0, .int 0, .null, .int 0, .int 45, .ref t1, .ref t2, .ref t3, .ref t4, .ref t5]))]) [0] rfl
    have hKc := hK.sub (tys' := []) [] rfl
    have hDc := hD.sub (ws' := [(m0, .inr (12, [.int th, .ref lr, .ref ld, .ref o1, .int (-1), .int (-1), .int 0, .ref o2, .ref o3, .ref o4, .ref o5, .ref o6, .ref o7, .ref o8, .ref o9, .ref o10, .int 0, .int 0, .null, .int 0, .int 45, .ref t1, .ref t2, .ref t3, .ref t4, .ref t5]))]) [0] (by decide) rfl
    have hFc := va_free (wc := [(m0, .inr (12, [.int th, .ref lr, .ref ld, .ref o1, .int (-1), .int (-1), .int 0, .ref o2, .ref o3, .ref o4, .ref o5, .ref o6, .ref o7, .ref o8, .ref o9, .ref o10, .int 0, .int 0, .null, .int 0, .int 45, .ref t1, .ref t2, .ref t3, .ref t4, .ref t5]))]) hD hS hA [0] rfl
    refine va_calli (va_runV (As := [.int 1]) (rest := []) ⟨hx, hb, hml, hown, hq⟩ (c_isWrong1 l hst tE adK adV dC dI m0 lr ld o1 o2 o3 o4 o5 o6 o7 o8 o9 o10 t1 t2 t3 t4 t5 th H.size) (tcV 1 hq q_1488 q_12 q_1485 q_1487 qp_22 rfl rfl (by decide +kernel) ⟨Nat.le_of_ble_eq_true rfl, Nat.le_of_ble_eq_true rfl⟩) (pre.V (va_recv hK hP (ci := 12) (q0 := 0) rfl rfl) (pre.of hPc hDc hKc ham hS hFc)) rfl rfl hl.1 rfl (lv_room (Nat.le_of_ble_eq_true rfl)) dX12_score_28 ⟨Nat.le_of_ble_eq_true rfl, Nat.le_of_ble_eq_true rfl⟩) hS (fun q _ h => hFc q h) hFc (fun r_3 u t H1 locs ht hvm hw hB hz1 hk1 hS => ?_)
    obtain ⟨hP1, hK1, hD1⟩ := hB
    rw [ht] at hP1
    have hK1 := va_K.moved hvm.symm hK1
    obtain ⟨hP, hD⟩ := va_join (wr := [(lr, .inr (14, [.int 0, .ref tE, .int 0])), (ld, .inr (14, [.int 0, .ref tE, .int 0]))]) (w1 := [(m0, .inr (12, [.int 1, .ref lr, .ref ld, .ref o1, .int (-1), .int (-1), .int 0, .ref o2, .ref o3, .ref o4, .ref o5, .ref o6, .ref o7, .ref o8, .ref o9, .ref o10, .int 0, .int 0, .null, .int 0, .int 45, .ref t1, .ref t2, .ref t3, .ref t4, .ref t5]))]) (wc := [(m0, .inr (12, [.int th, .ref lr, .ref ld, .ref o1, .int (-1), .int (-1), .int 0, .ref o2, .ref o3, .ref o4, .ref o5, .ref o6, .ref o7, .ref o8, .ref o9, .ref o10, .int 0, .int 0, .null, .int 0, .int 45, .ref t1, .ref t2, .ref t3, .ref t4, .ref t5]))]) hP hD [0] [1, 2] rfl rfl (by decide) (by decide) hk1 hFc hP1 hD1
    have hK := (hK.sub (tys' := []) [] rfl).app hK1
    generalize H1 = H at hP hS ⊢
    have hP : va_P (dC, dI) cls [(lr, .inr (14, [.int 0, .ref tE, .int 0])), (ld, .inr (14, [.int 0, .ref tE, .int 0])), (m0, .inr (12, [.int 1, .ref lr, .ref ld, .ref o1, .int (-1), .int (-1), .int 0, .ref o2, .ref o3, .ref o4, .ref o5, .ref o6, .ref o7, .ref o8, .ref o9, .ref o10, .int 0, .int 0, .null, .int 0, .int 45, .ref t1, .ref t2, .ref t3, .ref t4, .ref t5]))] H := hP
    have hD : va_D A [(lr, .inr (14, [.int 0, .ref tE, .int 0])), (ld, .inr (14, [.int 0, .ref tE, .int 0])), (m0, .inr (12, [.int 1, .ref lr, .ref ld, .ref o1, .int (-1), .int (-1), .int 0, .ref o2, .ref o3, .ref o4, .ref o5, .ref o6, .ref o7, .ref o8, .ref o9, .ref o10, .int 0, .int 0, .null, .int 0, .int 45, .ref t1, .ref t2, .ref t3, .ref t4, .ref t5]))] := hD
    have hK : va_K (dC, dI) cls [] s := hK
    refine W.widen (k := 0) (n := 0) (Nat.le_of_ble_eq_true rfl) (Nat.le_of_ble_eq_true rfl) ?_
    have hw : r_3 = 1 := hw
    subst hw
    refine lv_if_eq (tgt := 36) hx hb dX12_score_31 (by decide) (fun c_4 => ?_) (fun c_4 => ?_)
    · exact absurd c_4 (by decide)
    · refine lv_iconst (v := 0) hx hb dX12_score_34 (by decide) ?_
      refine W.widen (k := 0) (n := 0) (Nat.le_of_ble_eq_true rfl) (Nat.le_of_ble_eq_true rfl) ?_
      have hP9 := hP.sub (ws' := [(m0, .inr (12, [.int 1, .ref lr, .ref ld, .ref o1, .int (-1), .int (-1), .int 0, .ref o2, .ref o3, .ref o4, .ref o5, .ref o6, .ref o7, .ref o8, .ref o9, .ref o10, .int 0, .int 0, .null, .int 0, .int 45, .ref t1, .ref t2, .ref t3, .ref t4, .ref t5]))]) [2] rfl
      have hD9 := hD.sub (ws' := [(m0, .inr (12, [.int 1, .ref lr, .ref ld, .ref o1, .int (-1), .int (-1), .int 0, .ref o2, .ref o3, .ref o4, .ref o5, .ref o6, .ref o7, .ref o8, .ref o9, .ref o10, .int 0, .int 0, .null, .int 0, .int 45, .ref t1, .ref t2, .ref t3, .ref t4, .ref t5]))]) [2] (by decide) rfl
      have hK9 := hK.sub (tys' := []) [] rfl
      exact W.iret (v := 0) hx hb hr (fun t ht hW => ⟨⟨0, (), rfl, trivial, ⟨by rw [ht]; exact hP9, va_K.moved hW.alike hK9, hD9⟩⟩, hS.F ht⟩) hS.2.2 dX12_score_35
abbrev cX12_worlds : ByteArray := prog_13_method_50_code
def yX12_worlds : MethodName := ⟨RX12, "worlds", "(I)I"⟩
theorem dX12_worlds_0 : decode cX12_worlds 0 = .ok (.aload_n 0, 1) := by decide +kernel
theorem dX12_worlds_1 : decode cX12_worlds 1 = .ok (.aload_n 0, 1) := by decide +kernel
theorem dX12_worlds_2 : decode cX12_worlds 2 = .ok (.getfield 26, 3) := by decide +kernel
theorem dX12_worlds_5 : decode cX12_worlds 5 = .ok (.iload_n 1, 1) := by decide +kernel
theorem dX12_worlds_6 : decode cX12_worlds 6 = .ok (.invokestatic 123, 3) := by decide +kernel
theorem dX12_worlds_9 : decode cX12_worlds 9 = .ok (.ifCond .ne 7, 3) := by decide +kernel
theorem dX12_worlds_12 : decode cX12_worlds 12 = .ok (.iconst 1, 1) := by decide +kernel
theorem dX12_worlds_13 : decode cX12_worlds 13 = .ok (.goto 15, 3) := by decide +kernel
theorem dX12_worlds_28 : decode cX12_worlds 28 = .ok (.invokevirtual 110, 3) := by decide +kernel
theorem dX12_worlds_31 : decode cX12_worlds 31 = .ok (.ifCond .eq 7, 3) := by decide +kernel
theorem dX12_worlds_34 : decode cX12_worlds 34 = .ok (.iconst 0, 1) := by decide +kernel
theorem dX12_worlds_35 : decode cX12_worlds 35 = .ok (.goto 13, 3) := by decide +kernel
theorem dX12_worlds_48 : decode cX12_worlds 48 = .ok (.ireturn, 1) := by decide +kernel
set_option maxHeartbeats 4000000 in
set_option maxRecDepth 100000 in
theorem c_M_worlds (l : Launch) (hst : l.stackTraces = false) (tE : Nat) (adK adV : Nat → Nat) (dC : Nat → ClassId) (dI : Nat → Nat → Nat) (m0 : Nat) (lr : Nat) (ld : Nat) (o1 : Nat) (o2 : Nat) (o3 : Nat) (o4 : Nat) (o5 : Nat) (o6 : Nat) (o7 : Nat) (o8 : Nat) (o9 : Nat) (o10 : Nat) (t1 : Nat) (t2 : Nat) (t3 : Nat) (t4 : Nat) (t5 : Nat) (th : Int32) (p1 : Int32) (sz : Nat) : Met l yX12_worlds (Cond.code yX12_worlds cX12_worlds 2 (some .int) :: tw) ({ frames := 2, cells := 0, slots := 0, locals := 41 }) (va_Pc [.ref m0, .int p1] (pre tE adK adV (dC, dI) [(m0, .inr (12, [.int th, .ref lr, .ref ld, .ref o1, .int (-1), .int (-1), .int 0, .ref o2, .ref o3, .ref o4, .ref o5, .ref o6, .ref o7, .ref o8, .ref o9, .ref o10, .int 0, .int 0, .null, .int 0, .int 45, .ref t1, .ref t2, .ref t3, .ref t4, .ref t5])), (lr, .inr (14, [.int 0, .ref tE, .int 0])), (ld, .inr (14, [.int 0, .ref tE, .int 0]))] [] sz)) (va_Qi (fun (r : Int32) (_ : Unit) => True) (fun (_ : Unit) (t : State) => va_P (dC, dI) cls [(m0, .inr (12, [.int 1, .ref lr, .ref ld, .ref o1, .int (-1), .int (-1), .int 0, .ref o2, .ref o3, .ref o4, .ref o5, .ref o6, .ref o7, .ref o8, .ref o9, .ref o10, .int 0, .int 0, .null, .int 0, .int 45, .ref t1, .ref t2, .ref t3, .ref t4, .ref t5]))] t.heap ∧ va_K (dC, dI) cls [] t ∧ va_D (va_A [(m0, .inr (12, [.int th, .ref lr, .ref ld, .ref o1, .int (-1), .int (-1), .int 0, .ref o2, .ref o3, .ref o4, .ref o5, .ref o6, .ref o7, .ref o8, .ref o9, .ref o10, .int 0, .int 0, .null, .int 0, .int 45, .ref t1, .ref t2, .ref t3, .ref t4, .ref t5])), (lr, .inr (14, [.int 0, .ref tE, .int 0])), (ld, .inr (14, [.int 0, .ref tE, .int 0]))] sz) [(m0, .inr (12, [.int 1, .ref lr, .ref ld, .ref o1, .int (-1), .int (-1), .int 0, .ref o2, .ref o3, .ref o4, .ref o5, .ref o6, .ref o7, .ref o8, .ref o9, .ref o10, .int 0, .int 0, .null, .int 0, .int 45, .ref t1, .ref t2, .ref t3, .ref t4, .ref t5]))]) (va_A [(m0, .inr (12, [.int th, .ref lr, .ref ld, .ref o1, .int (-1), .int (-1), .int 0, .ref o2, .ref o3, .ref o4, .ref o5, .ref o6, .ref o7, .ref o8, .ref o9, .ref o10, .int 0, .int 0, .null, .int 0, .int 45, .ref t1, .ref t2, .ref t3, .ref t4, .ref t5])), (lr, .inr (14, [.int 0, .ref tE, .int 0])), (ld, .inr (14, [.int 0, .ref tE, .int 0]))] sz)) 0 0 (va_A [(m0, .inr (12, [.int th, .ref lr, .ref ld, .ref o1, .int (-1), .int (-1), .int 0, .ref o2, .ref o3, .ref o4, .ref o5, .ref o6, .ref o7, .ref o8, .ref o9, .ref o10, .int 0, .int 0, .null, .int 0, .int 45, .ref t1, .ref t2, .ref t3, .ref t4, .ref t5])), (lr, .inr (14, [.int 0, .ref tE, .int 0])), (ld, .inr (14, [.int 0, .ref tE, .int 0]))] sz) := by
  refine Met.ofW (cc := cX12_worlds) (maxL := 2) (ret := (some .int)) (by decide) rfl ?_
  intro p e s m args below meth c s₁ B hml hv
  obtain ⟨rfl, hsz, hP, hK, hD0, ham⟩ := hv
  have hx := B.exec
  have hb := B.bytes
  have hr := B.returns
  have hts := atoms_spec B.pre
  have hq : ∀ w ∈ tw, w.before _ s = true := fun w h => hts w (List.mem_cons_of_mem _ h)
  have hown : s.vm.findClass RX12 = some m.cls := findClass_of_methodNamed B.named
  have hlocks := B.notSynchronized
  subst hsz
  have hD := hD0.self (sz := s.heap.size)
  generalize hAe : va_A [(m0, .inr (12, [.int th, .ref lr, .ref ld, .ref o1, .int (-1), .int (-1), .int 0, .ref o2, .ref o3, .ref o4, .ref o5, .ref o6, .ref o7, .ref o8, .ref o9, .ref o10, .int 0, .int 0, .null, .int 0, .int 45, .ref t1, .ref t2, .ref t3, .ref t4, .ref t5])), (lr, .inr (14, [.int 0, .ref tE, .int 0])), (ld, .inr (14, [.int 0, .ref tE, .int 0]))] s.heap.size = A at hD ham ⊢
  have hA : ∀ q : Nat, s.heap.size ≤ q → A q := fun q h => by rw [← hAe]; exact Or.inr h
  have hS : va_S A s.heap s.heap [] := va_S.rf
  have hP : va_P (dC, dI) cls [(m0, .inr (12, [.int th, .ref lr, .ref ld, .ref o1, .int (-1), .int (-1), .int 0, .ref o2, .ref o3, .ref o4, .ref o5, .ref o6, .ref o7, .ref o8, .ref o9, .ref o10, .int 0, .int 0, .null, .int 0, .int 45, .ref t1, .ref t2, .ref t3, .ref t4, .ref t5])), (lr, .inr (14, [.int 0, .ref tE, .int 0])), (ld, .inr (14, [.int 0, .ref tE, .int 0]))] s.heap := hP
  have hl := lv_entry ([.ref m0, .int p1]) (n := 2) (Nat.le_of_ble_eq_true rfl)
  rw [lg_entry_eq]
  generalize (lg_sl ([.ref m0, .int p1]) ++ List.replicate (2 - (lg_sl ([.ref m0, .int p1])).length) Slot.unset).toArray = ls at hl ⊢
  have hl : lv_has ls 2 [(0, .ref m0), (1, .int p1)] := hl
  refine lv_aload_n hx hb dX12_worlds_0 rfl (lv_at hl 0 rfl) ?_
  refine lv_aload_n hx hb dX12_worlds_1 rfl (lv_at hl 0 rfl) ?_
  refine va_get (D := (dC, dI)) (ci := 12) (v := .ref ld) (C := RX12) (T := TX12) (N := 26) hx hb hq i_X12 hown hK hP 0 rfl rfl 2 (by decide) (hq _ q_1306) (fun _ h9 => h9) rfl dX12_worlds_2 ?_
  refine lv_iload_n hx hb dX12_worlds_5 rfl (lv_at hl 1 rfl) ?_
  have hPc := hP.sub (ws' := [(ld, .inr (14, [.int 0, .ref tE, .int 0]))]) [2] rfl
  have hKc := hK.sub (tys' := []) [] rfl
  refine va_calli (va_runS (As := [.ref ld, .int p1]) (rest := [.ref m0]) ⟨hx, hb, hml, hown, hq⟩ (c_isOf l hst tE adK adV dC dI ld p1 s.heap.size) (tcS 2 hq q_1599 q_12 q_1597 q_1598 rfl rfl (by decide +kernel) ⟨Nat.le_of_ble_eq_true rfl, Nat.le_of_ble_eq_true rfl⟩) (preR.S (preR.of hPc hKc ham hS hA)) rfl rfl hl.1 rfl (lv_room (Nat.le_of_ble_eq_true rfl)) dX12_worlds_6 ⟨Nat.le_of_ble_eq_true rfl, Nat.le_of_ble_eq_true rfl⟩) hS (fun q _ h => hA q (Nat.le_trans hS.1 h)) (fun q h => hA q (Nat.le_trans hS.1 h)) (fun r_1 u t H1 locs ht hvm hw hB hz1 hk1 hS => ?_)
  have hP : va_P (dC, dI) cls [(m0, .inr (12, [.int th, .ref lr, .ref ld, .ref o1, .int (-1), .int (-1), .int 0, .ref o2, .ref o3, .ref o4, .ref o5, .ref o6, .ref o7, .ref o8, .ref o9, .ref o10, .int 0, .int 0, .null, .int 0, .int 45, .ref t1, .ref t2, .ref t3, .ref t4, .ref t5])), (lr, .inr (14, [.int 0, .ref tE, .int 0])), (ld, .inr (14, [.int 0, .ref tE, .int 0]))] H1 := ro_keep hP hk1
  generalize H1 = H at hP hS ⊢
  refine W.widen (k := 0) (n := 0) (Nat.le_of_ble_eq_true rfl) (Nat.le_of_ble_eq_true rfl) ?_
  have hw : r_1 = 0 := hw
  subst hw
  refine lv_if_ne (tgt := 16) hx hb dX12_worlds_9 (by decide) (fun c_2 => ?_) (fun c_2 => ?_)
  · exact absurd c_2 (by decide)
  · refine lv_iconst (v := 1) hx hb dX12_worlds_12 (by decide) ?_
    refine lv_goto (tgt := 28) hx hb dX12_worlds_13 (by decide) ?_
    have hPc := hP.sub (ws' := [(m0, .inr (12, [.int th, .ref lr, .ref ld, .ref o1, .int (-1), .int (-1), .int 0, .ref o2, .ref o3, .ref o4, .ref o5, .ref o6, .ref o7, .ref o8, .ref o9, .ref o10, .int 0, .int 0, .null, .int 0, .int 45, .ref t1, .ref t2, .ref t3, .ref t4, .ref t5]))]) [0] rfl
    have hKc := hK.sub (tys' := []) [] rfl
    have hDc := hD.sub (ws' := [(m0, .inr (12, [.int th, .ref lr, .ref ld, .ref o1, .int (-1), .int (-1), .int 0, .ref o2, .ref o3, .ref o4, .ref o5, .ref o6, .ref o7, .ref o8, .ref o9, .ref o10, .int 0, .int 0, .null, .int 0, .int 45, .ref t1, .ref t2, .ref t3, .ref t4, .ref t5]))]) [0] (by decide) rfl
    have hFc := va_free (wc := [(m0, .inr (12, [.int th, .ref lr, .ref ld, .ref o1, .int (-1), .int (-1), .int 0, .ref o2, .ref o3, .ref o4, .ref o5, .ref o6, .ref o7, .ref o8, .ref o9, .ref o10, .int 0, .int 0, .null, .int 0, .int 45, .ref t1, .ref t2, .ref t3, .ref t4, .ref t5]))]) hD hS hA [0] rfl
    refine va_calli (va_runV (As := [.int 1]) (rest := []) ⟨hx, hb, hml, hown, hq⟩ (c_isWrong1 l hst tE adK adV dC dI m0 lr ld o1 o2 o3 o4 o5 o6 o7 o8 o9 o10 t1 t2 t3 t4 t5 th H.size) (tcV 1 hq q_1488 q_12 q_1485 q_1487 qp_22 rfl rfl (by decide +kernel) ⟨Nat.le_of_ble_eq_true rfl, Nat.le_of_ble_eq_true rfl⟩) (pre.V (va_recv hK hP (ci := 12) (q0 := 0) rfl rfl) (pre.of hPc hDc hKc ham hS hFc)) rfl rfl hl.1 rfl (lv_room (Nat.le_of_ble_eq_true rfl)) dX12_worlds_28 ⟨Nat.le_of_ble_eq_true rfl, Nat.le_of_ble_eq_true rfl⟩) hS (fun q _ h => hFc q h) hFc (fun r_3 u t H1 locs ht hvm hw hB hz1 hk1 hS => ?_)
    obtain ⟨hP1, hK1, hD1⟩ := hB
    rw [ht] at hP1
    have hK1 := va_K.moved hvm.symm hK1
    obtain ⟨hP, hD⟩ := va_join (wr := [(lr, .inr (14, [.int 0, .ref tE, .int 0])), (ld, .inr (14, [.int 0, .ref tE, .int 0]))]) (w1 := [(m0, .inr (12, [.int 1, .ref lr, .ref ld, .ref o1, .int (-1), .int (-1), .int 0, .ref o2, .ref o3, .ref o4, .ref o5, .ref o6, .ref o7, .ref o8, .ref o9, .ref o10, .int 0, .int 0, .null, .int 0, .int 45, .ref t1, .ref t2, .ref t3, .ref t4, .ref t5]))]) (wc := [(m0, .inr (12, [.int th, .ref lr, .ref ld, .ref o1, .int (-1), .int (-1), .int 0, .ref o2, .ref o3, .ref o4, .ref o5, .ref o6, .ref o7, .ref o8, .ref o9, .ref o10, .int 0, .int 0, .null, .int 0, .int 45, .ref t1, .ref t2, .ref t3, .ref t4, .ref t5]))]) hP hD [0] [1, 2] rfl rfl (by decide) (by decide) hk1 hFc hP1 hD1
    have hK := (hK.sub (tys' := []) [] rfl).app hK1
    generalize H1 = H at hP hS ⊢
    have hP : va_P (dC, dI) cls [(lr, .inr (14, [.int 0, .ref tE, .int 0])), (ld, .inr (14, [.int 0, .ref tE, .int 0])), (m0, .inr (12, [.int 1, .ref lr, .ref ld, .ref o1, .int (-1), .int (-1), .int 0, .ref o2, .ref o3, .ref o4, .ref o5, .ref o6, .ref o7, .ref o8, .ref o9, .ref o10, .int 0, .int 0, .null, .int 0, .int 45, .ref t1, .ref t2, .ref t3, .ref t4, .ref t5]))] H := hP
    have hD : va_D A [(lr, .inr (14, [.int 0, .ref tE, .int 0])), (ld, .inr (14, [.int 0, .ref tE, .int 0])), (m0, .inr (12, [.int 1, .ref lr, .ref ld, .ref o1, .int (-1), .int (-1), .int 0, .ref o2, .ref o3, .ref o4, .ref o5, .ref o6, .ref o7, .ref o8, .ref o9, .ref o10, .int 0, .int 0, .null, .int 0, .int 45, .ref t1, .ref t2, .ref t3, .ref t4, .ref t5]))] := hD
    have hK : va_K (dC, dI) cls [] s := hK
    refine W.widen (k := 0) (n := 0) (Nat.le_of_ble_eq_true rfl) (Nat.le_of_ble_eq_true rfl) ?_
    have hw : r_3 = 1 := hw
    subst hw
    refine lv_if_eq (tgt := 38) hx hb dX12_worlds_31 (by decide) (fun c_4 => ?_) (fun c_4 => ?_)
    · exact absurd c_4 (by decide)
    · refine lv_iconst (v := 0) hx hb dX12_worlds_34 (by decide) ?_
      refine lv_goto (tgt := 48) hx hb dX12_worlds_35 (by decide) ?_
      refine W.widen (k := 0) (n := 0) (Nat.le_of_ble_eq_true rfl) (Nat.le_of_ble_eq_true rfl) ?_
      have hP9 := hP.sub (ws' := [(m0, .inr (12, [.int 1, .ref lr, .ref ld, .ref o1, .int (-1), .int (-1), .int 0, .ref o2, .ref o3, .ref o4, .ref o5, .ref o6, .ref o7, .ref o8, .ref o9, .ref o10, .int 0, .int 0, .null, .int 0, .int 45, .ref t1, .ref t2, .ref t3, .ref t4, .ref t5]))]) [2] rfl
      have hD9 := hD.sub (ws' := [(m0, .inr (12, [.int 1, .ref lr, .ref ld, .ref o1, .int (-1), .int (-1), .int 0, .ref o2, .ref o3, .ref o4, .ref o5, .ref o6, .ref o7, .ref o8, .ref o9, .ref o10, .int 0, .int 0, .null, .int 0, .int 45, .ref t1, .ref t2, .ref t3, .ref t4, .ref t5]))]) [2] (by decide) rfl
      have hK9 := hK.sub (tys' := []) [] rfl
      exact W.iret (v := 0) hx hb hr (fun t ht hW => ⟨⟨0, (), rfl, trivial, ⟨by rw [ht]; exact hP9, va_K.moved hW.alike hK9, hD9⟩⟩, hS.F ht⟩) hS.2.2 dX12_worlds_48
abbrev cX12_possible : ByteArray := prog_13_method_51_code
def yX12_possible : MethodName := ⟨RX12, "possible", "(III)I"⟩
theorem dX12_possible_0 : decode cX12_possible 0 = .ok (.aload_n 0, 1) := by decide +kernel
theorem dX12_possible_1 : decode cX12_possible 1 = .ok (.aload_n 0, 1) := by decide +kernel
theorem dX12_possible_2 : decode cX12_possible 2 = .ok (.iload_n 1, 1) := by decide +kernel
theorem dX12_possible_3 : decode cX12_possible 3 = .ok (.iload_n 2, 1) := by decide +kernel
theorem dX12_possible_4 : decode cX12_possible 4 = .ok (.invokevirtual 140, 3) := by decide +kernel
theorem dX12_possible_7 : decode cX12_possible 7 = .ok (.ifCond .eq 14, 3) := by decide +kernel
theorem dX12_possible_21 : decode cX12_possible 21 = .ok (.iconst 1, 1) := by decide +kernel
theorem dX12_possible_22 : decode cX12_possible 22 = .ok (.goto 15, 3) := by decide +kernel
theorem dX12_possible_37 : decode cX12_possible 37 = .ok (.invokevirtual 110, 3) := by decide +kernel
theorem dX12_possible_40 : decode cX12_possible 40 = .ok (.ifCond .eq 5, 3) := by decide +kernel
theorem dX12_possible_43 : decode cX12_possible 43 = .ok (.iconst 0, 1) := by decide +kernel
theorem dX12_possible_44 : decode cX12_possible 44 = .ok (.ireturn, 1) := by decide +kernel
set_option maxHeartbeats 4000000 in
set_option maxRecDepth 100000 in
theorem c_M_possible (l : Launch) (hst : l.stackTraces = false) (tE : Nat) (adK adV : Nat → Nat) (dC : Nat → ClassId) (dI : Nat → Nat → Nat) (m0 : Nat) (lr : Nat) (ld : Nat) (o1 : Nat) (o2 : Nat) (o3 : Nat) (o4 : Nat) (o5 : Nat) (o6 : Nat) (o7 : Nat) (o8 : Nat) (o9 : Nat) (o10 : Nat) (t1 : Nat) (t2 : Nat) (t3 : Nat) (t4 : Nat) (t5 : Nat) (th : Int32) (p1 : Int32) (p2 : Int32) (p3 : Int32) (sz : Nat) : Met l yX12_possible (Cond.code yX12_possible cX12_possible 7 (some .int) :: tw) ({ frames := 3, cells := 0, slots := 0, locals := 63 }) (va_Pc [.ref m0, .int p1, .int p2, .int p3] (pre tE adK adV (dC, dI) [(m0, .inr (12, [.int th, .ref lr, .ref ld, .ref o1, .int (-1), .int (-1), .int 0, .ref o2, .ref o3, .ref o4, .ref o5, .ref o6, .ref o7, .ref o8, .ref o9, .ref o10, .int 0, .int 0, .null, .int 0, .int 45, .ref t1, .ref t2, .ref t3, .ref t4, .ref t5])), (lr, .inr (14, [.int 0, .ref tE, .int 0])), (ld, .inr (14, [.int 0, .ref tE, .int 0]))] [] sz)) (va_Qi (fun (r : Int32) (_ : Unit) => True) (fun (_ : Unit) (t : State) => va_P (dC, dI) cls [(m0, .inr (12, [.int 1, .ref lr, .ref ld, .ref o1, .int (-1), .int (-1), .int 0, .ref o2, .ref o3, .ref o4, .ref o5, .ref o6, .ref o7, .ref o8, .ref o9, .ref o10, .int 0, .int 0, .null, .int 0, .int 45, .ref t1, .ref t2, .ref t3, .ref t4, .ref t5]))] t.heap ∧ va_K (dC, dI) cls [] t ∧ va_D (va_A [(m0, .inr (12, [.int th, .ref lr, .ref ld, .ref o1, .int (-1), .int (-1), .int 0, .ref o2, .ref o3, .ref o4, .ref o5, .ref o6, .ref o7, .ref o8, .ref o9, .ref o10, .int 0, .int 0, .null, .int 0, .int 45, .ref t1, .ref t2, .ref t3, .ref t4, .ref t5])), (lr, .inr (14, [.int 0, .ref tE, .int 0])), (ld, .inr (14, [.int 0, .ref tE, .int 0]))] sz) [(m0, .inr (12, [.int 1, .ref lr, .ref ld, .ref o1, .int (-1), .int (-1), .int 0, .ref o2, .ref o3, .ref o4, .ref o5, .ref o6, .ref o7, .ref o8, .ref o9, .ref o10, .int 0, .int 0, .null, .int 0, .int 45, .ref t1, .ref t2, .ref t3, .ref t4, .ref t5]))]) (va_A [(m0, .inr (12, [.int th, .ref lr, .ref ld, .ref o1, .int (-1), .int (-1), .int 0, .ref o2, .ref o3, .ref o4, .ref o5, .ref o6, .ref o7, .ref o8, .ref o9, .ref o10, .int 0, .int 0, .null, .int 0, .int 45, .ref t1, .ref t2, .ref t3, .ref t4, .ref t5])), (lr, .inr (14, [.int 0, .ref tE, .int 0])), (ld, .inr (14, [.int 0, .ref tE, .int 0]))] sz)) 0 0 (va_A [(m0, .inr (12, [.int th, .ref lr, .ref ld, .ref o1, .int (-1), .int (-1), .int 0, .ref o2, .ref o3, .ref o4, .ref o5, .ref o6, .ref o7, .ref o8, .ref o9, .ref o10, .int 0, .int 0, .null, .int 0, .int 45, .ref t1, .ref t2, .ref t3, .ref t4, .ref t5])), (lr, .inr (14, [.int 0, .ref tE, .int 0])), (ld, .inr (14, [.int 0, .ref tE, .int 0]))] sz) := by
  refine Met.ofW (cc := cX12_possible) (maxL := 7) (ret := (some .int)) (by decide) rfl ?_
  intro p e s m args below meth c s₁ B hml hv
  obtain ⟨rfl, hsz, hP, hK, hD0, ham⟩ := hv
  have hx := B.exec
  have hb := B.bytes
  have hr := B.returns
  have hts := atoms_spec B.pre
  have hq : ∀ w ∈ tw, w.before _ s = true := fun w h => hts w (List.mem_cons_of_mem _ h)
  have hown : s.vm.findClass RX12 = some m.cls := findClass_of_methodNamed B.named
  have hlocks := B.notSynchronized
  subst hsz
  have hD := hD0.self (sz := s.heap.size)
  generalize hAe : va_A [(m0, .inr (12, [.int th, .ref lr, .ref ld, .ref o1, .int (-1), .int (-1), .int 0, .ref o2, .ref o3, .ref o4, .ref o5, .ref o6, .ref o7, .ref o8, .ref o9, .ref o10, .int 0, .int 0, .null, .int 0, .int 45, .ref t1, .ref t2, .ref t3, .ref t4, .ref t5])), (lr, .inr (14, [.int 0, .ref tE, .int 0])), (ld, .inr (14, [.int 0, .ref tE, .int 0]))] s.heap.size = A at hD ham ⊢
  have hA : ∀ q : Nat, s.heap.size ≤ q → A q := fun q h => by rw [← hAe]; exact Or.inr h
  have hS : va_S A s.heap s.heap [] := va_S.rf
  have hP : va_P (dC, dI) cls [(m0, .inr (12, [.int th, .ref lr, .ref ld, .ref o1, .int (-1), .int (-1), .int 0, .ref o2, .ref o3, .ref o4, .ref o5, .ref o6, .ref o7, .ref o8, .ref o9, .ref o10, .int 0, .int 0, .null, .int 0, .int 45, .ref t1, .ref t2, .ref t3, .ref t4, .ref t5])), (lr, .inr (14, [.int 0, .ref tE, .int 0])), (ld, .inr (14, [.int 0, .ref tE, .int 0]))] s.heap := hP
  have hl := lv_entry ([.ref m0, .int p1, .int p2, .int p3]) (n := 7) (Nat.le_of_ble_eq_true rfl)
  rw [lg_entry_eq]
  generalize (lg_sl ([.ref m0, .int p1, .int p2, .int p3]) ++ List.replicate (7 - (lg_sl ([.ref m0, .int p1, .int p2, .int p3])).length) Slot.unset).toArray = ls at hl ⊢
  have hl : lv_has ls 7 [(0, .ref m0), (1, .int p1), (2, .int p2), (3, .int p3)] := hl
  refine lv_aload_n hx hb dX12_possible_0 rfl (lv_at hl 0 rfl) ?_
  refine lv_aload_n hx hb dX12_possible_1 rfl (lv_at hl 0 rfl) ?_
  refine lv_iload_n hx hb dX12_possible_2 rfl (lv_at hl 1 rfl) ?_
  refine lv_iload_n hx hb dX12_possible_3 rfl (lv_at hl 2 rfl) ?_
  have hPc := hP.sub (ws' := [(m0, .inr (12, [.int th, .ref lr, .ref ld, .ref o1, .int (-1), .int (-1), .int 0, .ref o2, .ref o3, .ref o4, .ref o5, .ref o6, .ref o7, .ref o8, .ref o9, .ref o10, .int 0, .int 0, .null, .int 0, .int 45, .ref t1, .ref t2, .ref t3, .ref t4, .ref t5])), (ld, .inr (14, [.int 0, .ref tE, .int 0]))]) [0, 2] rfl
  have hKc := hK.sub (tys' := []) [] rfl
  refine va_calli (va_runV (As := [.int p1, .int p2]) (rest := [.ref m0]) ⟨hx, hb, hml, hown, hq⟩ (c_areSeats l hst tE adK adV dC dI m0 lr ld o1 o2 o3 o4 o5 o6 o7 o8 o9 o10 t1 t2 t3 t4 t5 th p1 p2 s.heap.size) (tcV 2 hq q_1650 q_12 q_1647 q_1649 qp_26 rfl rfl (by decide +kernel) ⟨Nat.le_of_ble_eq_true rfl, Nat.le_of_ble_eq_true rfl⟩) (preR.V (va_recv hK hP (ci := 12) (q0 := 0) rfl rfl) (preR.of hPc hKc ham hS hA)) rfl rfl hl.1 rfl (lv_room (Nat.le_of_ble_eq_true rfl)) dX12_possible_4 ⟨Nat.le_of_ble_eq_true rfl, Nat.le_of_ble_eq_true rfl⟩) hS (fun q _ h => hA q (Nat.le_trans hS.1 h)) (fun q h => hA q (Nat.le_trans hS.1 h)) (fun r_1 u t H1 locs ht hvm hw hB hz1 hk1 hS => ?_)
  have hP : va_P (dC, dI) cls [(m0, .inr (12, [.int th, .ref lr, .ref ld, .ref o1, .int (-1), .int (-1), .int 0, .ref o2, .ref o3, .ref o4, .ref o5, .ref o6, .ref o7, .ref o8, .ref o9, .ref o10, .int 0, .int 0, .null, .int 0, .int 45, .ref t1, .ref t2, .ref t3, .ref t4, .ref t5])), (lr, .inr (14, [.int 0, .ref tE, .int 0])), (ld, .inr (14, [.int 0, .ref tE, .int 0]))] H1 := ro_keep hP hk1
  generalize H1 = H at hP hS ⊢
  refine W.widen (k := 0) (n := 0) (Nat.le_of_ble_eq_true rfl) (Nat.le_of_ble_eq_true rfl) ?_
  have hw : r_1 = 0 := hw
  subst hw
  refine lv_if_eq (tgt := 21) hx hb dX12_possible_7 (by decide) (fun c_2 => ?_) (fun c_2 => ?_)
  · refine lv_iconst (v := 1) hx hb dX12_possible_21 (by decide) ?_
    refine lv_goto (tgt := 37) hx hb dX12_possible_22 (by decide) ?_
    have hPc := hP.sub (ws' := [(m0, .inr (12, [.int th, .ref lr, .ref ld, .ref o1, .int (-1), .int (-1), .int 0, .ref o2, .ref o3, .ref o4, .ref o5, .ref o6, .ref o7, .ref o8, .ref o9, .ref o10, .int 0, .int 0, .null, .int 0, .int 45, .ref t1, .ref t2, .ref t3, .ref t4, .ref t5]))]) [0] rfl
    have hKc := hK.sub (tys' := []) [] rfl
    have hDc := hD.sub (ws' := [(m0, .inr (12, [.int th, .ref lr, .ref ld, .ref o1, .int (-1), .int (-1), .int 0, .ref o2, .ref o3, .ref o4, .ref o5, .ref o6, .ref o7, .ref o8, .ref o9, .ref o10, .int 0, .int 0, .null, .int 0, .int 45, .ref t1, .ref t2, .ref t3, .ref t4, .ref t5]))]) [0] (by decide) rfl
    have hFc := va_free (wc := [(m0, .inr (12, [.int th, .ref lr, .ref ld, .ref o1, .int (-1), .int (-1), .int 0, .ref o2, .ref o3, .ref o4, .ref o5, .ref o6, .ref o7, .ref o8, .ref o9, .ref o10, .int 0, .int 0, .null, .int 0, .int 45, .ref t1, .ref t2, .ref t3, .ref t4, .ref t5]))]) hD hS hA [0] rfl
    refine va_calli (va_runV (As := [.int 1]) (rest := []) ⟨hx, hb, hml, hown, hq⟩ (c_isWrong1 l hst tE adK adV dC dI m0 lr ld o1 o2 o3 o4 o5 o6 o7 o8 o9 o10 t1 t2 t3 t4 t5 th H.size) (tcV 1 hq q_1488 q_12 q_1485 q_1487 qp_22 rfl rfl (by decide +kernel) ⟨Nat.le_of_ble_eq_true rfl, Nat.le_of_ble_eq_true rfl⟩) (pre.V (va_recv hK hP (ci := 12) (q0 := 0) rfl rfl) (pre.of hPc hDc hKc ham hS hFc)) rfl rfl hl.1 rfl (lv_room (Nat.le_of_ble_eq_true rfl)) dX12_possible_37 ⟨Nat.le_of_ble_eq_true rfl, Nat.le_of_ble_eq_true rfl⟩) hS (fun q _ h => hFc q h) hFc (fun r_3 u t H1 locs ht hvm hw hB hz1 hk1 hS => ?_)
    obtain ⟨hP1, hK1, hD1⟩ := hB
    rw [ht] at hP1
    have hK1 := va_K.moved hvm.symm hK1
    obtain ⟨hP, hD⟩ := va_join (wr := [(lr, .inr (14, [.int 0, .ref tE, .int 0])), (ld, .inr (14, [.int 0, .ref tE, .int 0]))]) (w1 := [(m0, .inr (12, [.int 1, .ref lr, .ref ld, .ref o1, .int (-1), .int (-1), .int 0, .ref o2, .ref o3, .ref o4, .ref o5, .ref o6, .ref o7, .ref o8, .ref o9, .ref o10, .int 0, .int 0, .null, .int 0, .int 45, .ref t1, .ref t2, .ref t3, .ref t4, .ref t5]))]) (wc := [(m0, .inr (12, [.int th, .ref lr, .ref ld, .ref o1, .int (-1), .int (-1), .int 0, .ref o2, .ref o3, .ref o4, .ref o5, .ref o6, .ref o7, .ref o8, .ref o9, .ref o10, .int 0, .int 0, .null, .int 0, .int 45, .ref t1, .ref t2, .ref t3, .ref t4, .ref t5]))]) hP hD [0] [1, 2] rfl rfl (by decide) (by decide) hk1 hFc hP1 hD1
    have hK := (hK.sub (tys' := []) [] rfl).app hK1
    generalize H1 = H at hP hS ⊢
    have hP : va_P (dC, dI) cls [(lr, .inr (14, [.int 0, .ref tE, .int 0])), (ld, .inr (14, [.int 0, .ref tE, .int 0])), (m0, .inr (12, [.int 1, .ref lr, .ref ld, .ref o1, .int (-1), .int (-1), .int 0, .ref o2, .ref o3, .ref o4, .ref o5, .ref o6, .ref o7, .ref o8, .ref o9, .ref o10, .int 0, .int 0, .null, .int 0, .int 45, .ref t1, .ref t2, .ref t3, .ref t4, .ref t5]))] H := hP
    have hD : va_D A [(lr, .inr (14, [.int 0, .ref tE, .int 0])), (ld, .inr (14, [.int 0, .ref tE, .int 0])), (m0, .inr (12, [.int 1, .ref lr, .ref ld, .ref o1, .int (-1), .int (-1), .int 0, .ref o2, .ref o3, .ref o4, .ref o5, .ref o6, .ref o7, .ref o8, .ref o9, .ref o10, .int 0, .int 0, .null, .int 0, .int 45, .ref t1, .ref t2, .ref t3, .ref t4, .ref t5]))] := hD
    have hK : va_K (dC, dI) cls [] s := hK
    refine W.widen (k := 0) (n := 0) (Nat.le_of_ble_eq_true rfl) (Nat.le_of_ble_eq_true rfl) ?_
    have hw : r_3 = 1 := hw
    subst hw
    refine lv_if_eq (tgt := 45) hx hb dX12_possible_40 (by decide) (fun c_4 => ?_) (fun c_4 => ?_)
    · exact absurd c_4 (by decide)
    · refine lv_iconst (v := 0) hx hb dX12_possible_43 (by decide) ?_
      refine W.widen (k := 0) (n := 0) (Nat.le_of_ble_eq_true rfl) (Nat.le_of_ble_eq_true rfl) ?_
      have hP9 := hP.sub (ws' := [(m0, .inr (12, [.int 1, .ref lr, .ref ld, .ref o1, .int (-1), .int (-1), .int 0, .ref o2, .ref o3, .ref o4, .ref o5, .ref o6, .ref o7, .ref o8, .ref o9, .ref o10, .int 0, .int 0, .null, .int 0, .int 45, .ref t1, .ref t2, .ref t3, .ref t4, .ref t5]))]) [2] rfl
      have hD9 := hD.sub (ws' := [(m0, .inr (12, [.int 1, .ref lr, .ref ld, .ref o1, .int (-1), .int (-1), .int 0, .ref o2, .ref o3, .ref o4, .ref o5, .ref o6, .ref o7, .ref o8, .ref o9, .ref o10, .int 0, .int 0, .null, .int 0, .int 45, .ref t1, .ref t2, .ref t3, .ref t4, .ref t5]))]) [2] (by decide) rfl
      have hK9 := hK.sub (tys' := []) [] rfl
      exact W.iret (v := 0) hx hb hr (fun t ht hW => ⟨⟨0, (), rfl, trivial, ⟨by rw [ht]; exact hP9, va_K.moved hW.alike hK9, hD9⟩⟩, hS.F ht⟩) hS.2.2 dX12_possible_44
  · exact absurd c_2 (by decide)
abbrev cX12_sure : ByteArray := prog_13_method_52_code
def yX12_sure : MethodName := ⟨RX12, "sure", "(II)C"⟩
theorem dX12_sure_0 : decode cX12_sure 0 = .ok (.aload_n 0, 1) := by decide +kernel
theorem dX12_sure_1 : decode cX12_sure 1 = .ok (.aload_n 0, 1) := by decide +kernel
theorem dX12_sure_2 : decode cX12_sure 2 = .ok (.iload_n 1, 1) := by decide +kernel
theorem dX12_sure_3 : decode cX12_sure 3 = .ok (.iload_n 2, 1) := by decide +kernel
theorem dX12_sure_4 : decode cX12_sure 4 = .ok (.invokevirtual 140, 3) := by decide +kernel
theorem dX12_sure_7 : decode cX12_sure 7 = .ok (.ifCond .ne 7, 3) := by decide +kernel
theorem dX12_sure_10 : decode cX12_sure 10 = .ok (.iconst 1, 1) := by decide +kernel
theorem dX12_sure_11 : decode cX12_sure 11 = .ok (.goto 15, 3) := by decide +kernel
theorem dX12_sure_26 : decode cX12_sure 26 = .ok (.invokevirtual 110, 3) := by decide +kernel
theorem dX12_sure_29 : decode cX12_sure 29 = .ok (.ifCond .eq 5, 3) := by decide +kernel
theorem dX12_sure_32 : decode cX12_sure 32 = .ok (.iconst 0, 1) := by decide +kernel
theorem dX12_sure_33 : decode cX12_sure 33 = .ok (.ireturn, 1) := by decide +kernel
set_option maxHeartbeats 4000000 in
set_option maxRecDepth 100000 in
theorem c_M_sure (l : Launch) (hst : l.stackTraces = false) (tE : Nat) (adK adV : Nat → Nat) (dC : Nat → ClassId) (dI : Nat → Nat → Nat) (m0 : Nat) (lr : Nat) (ld : Nat) (o1 : Nat) (o2 : Nat) (o3 : Nat) (o4 : Nat) (o5 : Nat) (o6 : Nat) (o7 : Nat) (o8 : Nat) (o9 : Nat) (o10 : Nat) (t1 : Nat) (t2 : Nat) (t3 : Nat) (t4 : Nat) (t5 : Nat) (th : Int32) (p1 : Int32) (p2 : Int32) (sz : Nat) : Met l yX12_sure (Cond.code yX12_sure cX12_sure 7 (some .char) :: tw) ({ frames := 3, cells := 0, slots := 0, locals := 63 }) (va_Pc [.ref m0, .int p1, .int p2] (pre tE adK adV (dC, dI) [(m0, .inr (12, [.int th, .ref lr, .ref ld, .ref o1, .int (-1), .int (-1), .int 0, .ref o2, .ref o3, .ref o4, .ref o5, .ref o6, .ref o7, .ref o8, .ref o9, .ref o10, .int 0, .int 0, .null, .int 0, .int 45, .ref t1, .ref t2, .ref t3, .ref t4, .ref t5])), (lr, .inr (14, [.int 0, .ref tE, .int 0])), (ld, .inr (14, [.int 0, .ref tE, .int 0]))] [] sz)) (va_Qi (fun (r : Int32) (_ : Unit) => True) (fun (_ : Unit) (t : State) => va_P (dC, dI) cls [(m0, .inr (12, [.int 1, .ref lr, .ref ld, .ref o1, .int (-1), .int (-1), .int 0, .ref o2, .ref o3, .ref o4, .ref o5, .ref o6, .ref o7, .ref o8, .ref o9, .ref o10, .int 0, .int 0, .null, .int 0, .int 45, .ref t1, .ref t2, .ref t3, .ref t4, .ref t5]))] t.heap ∧ va_K (dC, dI) cls [] t ∧ va_D (va_A [(m0, .inr (12, [.int th, .ref lr, .ref ld, .ref o1, .int (-1), .int (-1), .int 0, .ref o2, .ref o3, .ref o4, .ref o5, .ref o6, .ref o7, .ref o8, .ref o9, .ref o10, .int 0, .int 0, .null, .int 0, .int 45, .ref t1, .ref t2, .ref t3, .ref t4, .ref t5])), (lr, .inr (14, [.int 0, .ref tE, .int 0])), (ld, .inr (14, [.int 0, .ref tE, .int 0]))] sz) [(m0, .inr (12, [.int 1, .ref lr, .ref ld, .ref o1, .int (-1), .int (-1), .int 0, .ref o2, .ref o3, .ref o4, .ref o5, .ref o6, .ref o7, .ref o8, .ref o9, .ref o10, .int 0, .int 0, .null, .int 0, .int 45, .ref t1, .ref t2, .ref t3, .ref t4, .ref t5]))]) (va_A [(m0, .inr (12, [.int th, .ref lr, .ref ld, .ref o1, .int (-1), .int (-1), .int 0, .ref o2, .ref o3, .ref o4, .ref o5, .ref o6, .ref o7, .ref o8, .ref o9, .ref o10, .int 0, .int 0, .null, .int 0, .int 45, .ref t1, .ref t2, .ref t3, .ref t4, .ref t5])), (lr, .inr (14, [.int 0, .ref tE, .int 0])), (ld, .inr (14, [.int 0, .ref tE, .int 0]))] sz)) 0 0 (va_A [(m0, .inr (12, [.int th, .ref lr, .ref ld, .ref o1, .int (-1), .int (-1), .int 0, .ref o2, .ref o3, .ref o4, .ref o5, .ref o6, .ref o7, .ref o8, .ref o9, .ref o10, .int 0, .int 0, .null, .int 0, .int 45, .ref t1, .ref t2, .ref t3, .ref t4, .ref t5])), (lr, .inr (14, [.int 0, .ref tE, .int 0])), (ld, .inr (14, [.int 0, .ref tE, .int 0]))] sz) := by
  refine Met.ofW (cc := cX12_sure) (maxL := 7) (ret := (some .char)) (by decide) rfl ?_
  intro p e s m args below meth c s₁ B hml hv
  obtain ⟨rfl, hsz, hP, hK, hD0, ham⟩ := hv
  have hx := B.exec
  have hb := B.bytes
  have hr := B.returns
  have hts := atoms_spec B.pre
  have hq : ∀ w ∈ tw, w.before _ s = true := fun w h => hts w (List.mem_cons_of_mem _ h)
  have hown : s.vm.findClass RX12 = some m.cls := findClass_of_methodNamed B.named
  have hlocks := B.notSynchronized
  subst hsz
  have hD := hD0.self (sz := s.heap.size)
  generalize hAe : va_A [(m0, .inr (12, [.int th, .ref lr, .ref ld, .ref o1, .int (-1), .int (-1), .int 0, .ref o2, .ref o3, .ref o4, .ref o5, .ref o6, .ref o7, .ref o8, .ref o9, .ref o10, .int 0, .int 0, .null, .int 0, .int 45, .ref t1, .ref t2, .ref t3, .ref t4, .ref t5])), (lr, .inr (14, [.int 0, .ref tE, .int 0])), (ld, .inr (14, [.int 0, .ref tE, .int 0]))] s.heap.size = A at hD ham ⊢
  have hA : ∀ q : Nat, s.heap.size ≤ q → A q := fun q h => by rw [← hAe]; exact Or.inr h
  have hS : va_S A s.heap s.heap [] := va_S.rf
  have hP : va_P (dC, dI) cls [(m0, .inr (12, [.int th, .ref lr, .ref ld, .ref o1, .int (-1), .int (-1), .int 0, .ref o2, .ref o3, .ref o4, .ref o5, .ref o6, .ref o7, .ref o8, .ref o9, .ref o10, .int 0, .int 0, .null, .int 0, .int 45, .ref t1, .ref t2, .ref t3, .ref t4, .ref t5])), (lr, .inr (14, [.int 0, .ref tE, .int 0])), (ld, .inr (14, [.int 0, .ref tE, .int 0]))] s.heap := hP
  have hl := lv_entry ([.ref m0, .int p1, .int p2]) (n := 7) (Nat.le_of_ble_eq_true rfl)
  rw [lg_entry_eq]
  generalize (lg_sl ([.ref m0, .int p1, .int p2]) ++ List.replicate (7 - (lg_sl ([.ref m0, .int p1, .int p2])).length) Slot.unset).toArray = ls at hl ⊢
  have hl : lv_has ls 7 [(0, .ref m0), (1, .int p1), (2, .int p2)] := hl
  refine lv_aload_n hx hb dX12_sure_0 rfl (lv_at hl 0 rfl) ?_
  refine lv_aload_n hx hb dX12_sure_1 rfl (lv_at hl 0 rfl) ?_
  refine lv_iload_n hx hb dX12_sure_2 rfl (lv_at hl 1 rfl) ?_
  refine lv_iload_n hx hb dX12_sure_3 rfl (lv_at hl 2 rfl) ?_
  have hPc := hP.sub (ws' := [(m0, .inr (12, [.int th, .ref lr, .ref ld, .ref o1, .int (-1), .int (-1), .int 0, .ref o2, .ref o3, .ref o4, .ref o5, .ref o6, .ref o7, .ref o8, .ref o9, .ref o10, .int 0, .int 0, .null, .int 0, .int 45, .ref t1, .ref t2, .ref t3, .ref t4, .ref t5])), (ld, .inr (14, [.int 0, .ref tE, .int 0]))]) [0, 2] rfl
  have hKc := hK.sub (tys' := []) [] rfl
  refine va_calli (va_runV (As := [.int p1, .int p2]) (rest := [.ref m0]) ⟨hx, hb, hml, hown, hq⟩ (c_areSeats l hst tE adK adV dC dI m0 lr ld o1 o2 o3 o4 o5 o6 o7 o8 o9 o10 t1 t2 t3 t4 t5 th p1 p2 s.heap.size) (tcV 2 hq q_1650 q_12 q_1647 q_1649 qp_26 rfl rfl (by decide +kernel) ⟨Nat.le_of_ble_eq_true rfl, Nat.le_of_ble_eq_true rfl⟩) (preR.V (va_recv hK hP (ci := 12) (q0 := 0) rfl rfl) (preR.of hPc hKc ham hS hA)) rfl rfl hl.1 rfl (lv_room (Nat.le_of_ble_eq_true rfl)) dX12_sure_4 ⟨Nat.le_of_ble_eq_true rfl, Nat.le_of_ble_eq_true rfl⟩) hS (fun q _ h => hA q (Nat.le_trans hS.1 h)) (fun q h => hA q (Nat.le_trans hS.1 h)) (fun r_1 u t H1 locs ht hvm hw hB hz1 hk1 hS => ?_)
  have hP : va_P (dC, dI) cls [(m0, .inr (12, [.int th, .ref lr, .ref ld, .ref o1, .int (-1), .int (-1), .int 0, .ref o2, .ref o3, .ref o4, .ref o5, .ref o6, .ref o7, .ref o8, .ref o9, .ref o10, .int 0, .int 0, .null, .int 0, .int 45, .ref t1, .ref t2, .ref t3, .ref t4, .ref t5])), (lr, .inr (14, [.int 0, .ref tE, .int 0])), (ld, .inr (14, [.int 0, .ref tE, .int 0]))] H1 := ro_keep hP hk1
  generalize H1 = H at hP hS ⊢
  refine W.widen (k := 0) (n := 0) (Nat.le_of_ble_eq_true rfl) (Nat.le_of_ble_eq_true rfl) ?_
  have hw : r_1 = 0 := hw
  subst hw
  refine lv_if_ne (tgt := 14) hx hb dX12_sure_7 (by decide) (fun c_2 => ?_) (fun c_2 => ?_)
  · exact absurd c_2 (by decide)
  · refine lv_iconst (v := 1) hx hb dX12_sure_10 (by decide) ?_
    refine lv_goto (tgt := 26) hx hb dX12_sure_11 (by decide) ?_
    have hPc := hP.sub (ws' := [(m0, .inr (12, [.int th, .ref lr, .ref ld, .ref o1, .int (-1), .int (-1), .int 0, .ref o2, .ref o3, .ref o4, .ref o5, .ref o6, .ref o7, .ref o8, .ref o9, .ref o10, .int 0, .int 0, .null, .int 0, .int 45, .ref t1, .ref t2, .ref t3, .ref t4, .ref t5]))]) [0] rfl
    have hKc := hK.sub (tys' := []) [] rfl
    have hDc := hD.sub (ws' := [(m0, .inr (12, [.int th, .ref lr, .ref ld, .ref o1, .int (-1), .int (-1), .int 0, .ref o2, .ref o3, .ref o4, .ref o5, .ref o6, .ref o7, .ref o8, .ref o9, .ref o10, .int 0, .int 0, .null, .int 0, .int 45, .ref t1, .ref t2, .ref t3, .ref t4, .ref t5]))]) [0] (by decide) rfl
    have hFc := va_free (wc := [(m0, .inr (12, [.int th, .ref lr, .ref ld, .ref o1, .int (-1), .int (-1), .int 0, .ref o2, .ref o3, .ref o4, .ref o5, .ref o6, .ref o7, .ref o8, .ref o9, .ref o10, .int 0, .int 0, .null, .int 0, .int 45, .ref t1, .ref t2, .ref t3, .ref t4, .ref t5]))]) hD hS hA [0] rfl
    refine va_calli (va_runV (As := [.int 1]) (rest := []) ⟨hx, hb, hml, hown, hq⟩ (c_isWrong1 l hst tE adK adV dC dI m0 lr ld o1 o2 o3 o4 o5 o6 o7 o8 o9 o10 t1 t2 t3 t4 t5 th H.size) (tcV 1 hq q_1488 q_12 q_1485 q_1487 qp_22 rfl rfl (by decide +kernel) ⟨Nat.le_of_ble_eq_true rfl, Nat.le_of_ble_eq_true rfl⟩) (pre.V (va_recv hK hP (ci := 12) (q0 := 0) rfl rfl) (pre.of hPc hDc hKc ham hS hFc)) rfl rfl hl.1 rfl (lv_room (Nat.le_of_ble_eq_true rfl)) dX12_sure_26 ⟨Nat.le_of_ble_eq_true rfl, Nat.le_of_ble_eq_true rfl⟩) hS (fun q _ h => hFc q h) hFc (fun r_3 u t H1 locs ht hvm hw hB hz1 hk1 hS => ?_)
    obtain ⟨hP1, hK1, hD1⟩ := hB
    rw [ht] at hP1
    have hK1 := va_K.moved hvm.symm hK1
    obtain ⟨hP, hD⟩ := va_join (wr := [(lr, .inr (14, [.int 0, .ref tE, .int 0])), (ld, .inr (14, [.int 0, .ref tE, .int 0]))]) (w1 := [(m0, .inr (12, [.int 1, .ref lr, .ref ld, .ref o1, .int (-1), .int (-1), .int 0, .ref o2, .ref o3, .ref o4, .ref o5, .ref o6, .ref o7, .ref o8, .ref o9, .ref o10, .int 0, .int 0, .null, .int 0, .int 45, .ref t1, .ref t2, .ref t3, .ref t4, .ref t5]))]) (wc := [(m0, .inr (12, [.int th, .ref lr, .ref ld, .ref o1, .int (-1), .int (-1), .int 0, .ref o2, .ref o3, .ref o4, .ref o5, .ref o6, .ref o7, .ref o8, .ref o9, .ref o10, .int 0, .int 0, .null, .int 0, .int 45, .ref t1, .ref t2, .ref t3, .ref t4, .ref t5]))]) hP hD [0] [1, 2] rfl rfl (by decide) (by decide) hk1 hFc hP1 hD1
    have hK := (hK.sub (tys' := []) [] rfl).app hK1
    generalize H1 = H at hP hS ⊢
    have hP : va_P (dC, dI) cls [(lr, .inr (14, [.int 0, .ref tE, .int 0])), (ld, .inr (14, [.int 0, .ref tE, .int 0])), (m0, .inr (12, [.int 1, .ref lr, .ref ld, .ref o1, .int (-1), .int (-1), .int 0, .ref o2, .ref o3, .ref o4, .ref o5, .ref o6, .ref o7, .ref o8, .ref o9, .ref o10, .int 0, .int 0, .null, .int 0, .int 45, .ref t1, .ref t2, .ref t3, .ref t4, .ref t5]))] H := hP
    have hD : va_D A [(lr, .inr (14, [.int 0, .ref tE, .int 0])), (ld, .inr (14, [.int 0, .ref tE, .int 0])), (m0, .inr (12, [.int 1, .ref lr, .ref ld, .ref o1, .int (-1), .int (-1), .int 0, .ref o2, .ref o3, .ref o4, .ref o5, .ref o6, .ref o7, .ref o8, .ref o9, .ref o10, .int 0, .int 0, .null, .int 0, .int 45, .ref t1, .ref t2, .ref t3, .ref t4, .ref t5]))] := hD
    have hK : va_K (dC, dI) cls [] s := hK
    refine W.widen (k := 0) (n := 0) (Nat.le_of_ble_eq_true rfl) (Nat.le_of_ble_eq_true rfl) ?_
    have hw : r_3 = 1 := hw
    subst hw
    refine lv_if_eq (tgt := 34) hx hb dX12_sure_29 (by decide) (fun c_4 => ?_) (fun c_4 => ?_)
    · exact absurd c_4 (by decide)
    · refine lv_iconst (v := 0) hx hb dX12_sure_32 (by decide) ?_
      refine W.widen (k := 0) (n := 0) (Nat.le_of_ble_eq_true rfl) (Nat.le_of_ble_eq_true rfl) ?_
      have hP9 := hP.sub (ws' := [(m0, .inr (12, [.int 1, .ref lr, .ref ld, .ref o1, .int (-1), .int (-1), .int 0, .ref o2, .ref o3, .ref o4, .ref o5, .ref o6, .ref o7, .ref o8, .ref o9, .ref o10, .int 0, .int 0, .null, .int 0, .int 45, .ref t1, .ref t2, .ref t3, .ref t4, .ref t5]))]) [2] rfl
      have hD9 := hD.sub (ws' := [(m0, .inr (12, [.int 1, .ref lr, .ref ld, .ref o1, .int (-1), .int (-1), .int 0, .ref o2, .ref o3, .ref o4, .ref o5, .ref o6, .ref o7, .ref o8, .ref o9, .ref o10, .int 0, .int 0, .null, .int 0, .int 45, .ref t1, .ref t2, .ref t3, .ref t4, .ref t5]))]) [2] (by decide) rfl
      have hK9 := hK.sub (tys' := []) [] rfl
      exact W.zret (v := 0) hx hb hr (by decide) (fun t ht hW => ⟨⟨0, (), rfl, trivial, ⟨by rw [ht]; exact hP9, va_K.moved hW.alike hK9, hD9⟩⟩, hS.F ht⟩) hS.2.2 dX12_sure_33
abbrev cX12_known : ByteArray := prog_13_method_53_code
def yX12_known : MethodName := ⟨RX12, "known", "()I"⟩
theorem dX12_known_0 : decode cX12_known 0 = .ok (.aload_n 0, 1) := by decide +kernel
theorem dX12_known_1 : decode cX12_known 1 = .ok (.aload_n 0, 1) := by decide +kernel
theorem dX12_known_2 : decode cX12_known 2 = .ok (.getfield 106, 3) := by decide +kernel
theorem dX12_known_5 : decode cX12_known 5 = .ok (.ifCond .eq 7, 3) := by decide +kernel
theorem dX12_known_12 : decode cX12_known 12 = .ok (.iconst 1, 1) := by decide +kernel
theorem dX12_known_13 : decode cX12_known 13 = .ok (.invokevirtual 110, 3) := by decide +kernel
theorem dX12_known_16 : decode cX12_known 16 = .ok (.ifCond .eq 5, 3) := by decide +kernel
theorem dX12_known_19 : decode cX12_known 19 = .ok (.iconst 0, 1) := by decide +kernel
theorem dX12_known_20 : decode cX12_known 20 = .ok (.ireturn, 1) := by decide +kernel
set_option maxHeartbeats 4000000 in
set_option maxRecDepth 100000 in
theorem c_M_known (l : Launch) (hst : l.stackTraces = false) (tE : Nat) (adK adV : Nat → Nat) (dC : Nat → ClassId) (dI : Nat → Nat → Nat) (m0 : Nat) (lr : Nat) (ld : Nat) (o1 : Nat) (o2 : Nat) (o3 : Nat) (o4 : Nat) (o5 : Nat) (o6 : Nat) (o7 : Nat) (o8 : Nat) (o9 : Nat) (o10 : Nat) (t1 : Nat) (t2 : Nat) (t3 : Nat) (t4 : Nat) (t5 : Nat) (th : Int32) (sz : Nat) : Met l yX12_known (Cond.code yX12_known cX12_known 4 (some .int) :: tw) ({ frames := 1, cells := 0, slots := 0, locals := 21 }) (va_Pc [.ref m0] (pre tE adK adV (dC, dI) [(m0, .inr (12, [.int th, .ref lr, .ref ld, .ref o1, .int (-1), .int (-1), .int 0, .ref o2, .ref o3, .ref o4, .ref o5, .ref o6, .ref o7, .ref o8, .ref o9, .ref o10, .int 0, .int 0, .null, .int 0, .int 45, .ref t1, .ref t2, .ref t3, .ref t4, .ref t5])), (lr, .inr (14, [.int 0, .ref tE, .int 0])), (ld, .inr (14, [.int 0, .ref tE, .int 0]))] [] sz)) (va_Qi (fun (r : Int32) (_ : Unit) => True) (fun (_ : Unit) (t : State) => va_P (dC, dI) cls [(m0, .inr (12, [.int 1, .ref lr, .ref ld, .ref o1, .int (-1), .int (-1), .int 0, .ref o2, .ref o3, .ref o4, .ref o5, .ref o6, .ref o7, .ref o8, .ref o9, .ref o10, .int 0, .int 0, .null, .int 0, .int 45, .ref t1, .ref t2, .ref t3, .ref t4, .ref t5]))] t.heap ∧ va_K (dC, dI) cls [] t ∧ va_D (va_A [(m0, .inr (12, [.int th, .ref lr, .ref ld, .ref o1, .int (-1), .int (-1), .int 0, .ref o2, .ref o3, .ref o4, .ref o5, .ref o6, .ref o7, .ref o8, .ref o9, .ref o10, .int 0, .int 0, .null, .int 0, .int 45, .ref t1, .ref t2, .ref t3, .ref t4, .ref t5])), (lr, .inr (14, [.int 0, .ref tE, .int 0])), (ld, .inr (14, [.int 0, .ref tE, .int 0]))] sz) [(m0, .inr (12, [.int 1, .ref lr, .ref ld, .ref o1, .int (-1), .int (-1), .int 0, .ref o2, .ref o3, .ref o4, .ref o5, .ref o6, .ref o7, .ref o8, .ref o9, .ref o10, .int 0, .int 0, .null, .int 0, .int 45, .ref t1, .ref t2, .ref t3, .ref t4, .ref t5]))]) (va_A [(m0, .inr (12, [.int th, .ref lr, .ref ld, .ref o1, .int (-1), .int (-1), .int 0, .ref o2, .ref o3, .ref o4, .ref o5, .ref o6, .ref o7, .ref o8, .ref o9, .ref o10, .int 0, .int 0, .null, .int 0, .int 45, .ref t1, .ref t2, .ref t3, .ref t4, .ref t5])), (lr, .inr (14, [.int 0, .ref tE, .int 0])), (ld, .inr (14, [.int 0, .ref tE, .int 0]))] sz)) 0 0 (va_A [(m0, .inr (12, [.int th, .ref lr, .ref ld, .ref o1, .int (-1), .int (-1), .int 0, .ref o2, .ref o3, .ref o4, .ref o5, .ref o6, .ref o7, .ref o8, .ref o9, .ref o10, .int 0, .int 0, .null, .int 0, .int 45, .ref t1, .ref t2, .ref t3, .ref t4, .ref t5])), (lr, .inr (14, [.int 0, .ref tE, .int 0])), (ld, .inr (14, [.int 0, .ref tE, .int 0]))] sz) := by
  refine Met.ofW (cc := cX12_known) (maxL := 4) (ret := (some .int)) (by decide) rfl ?_
  intro p e s m args below meth c s₁ B hml hv
  obtain ⟨rfl, hsz, hP, hK, hD0, ham⟩ := hv
  have hx := B.exec
  have hb := B.bytes
  have hr := B.returns
  have hts := atoms_spec B.pre
  have hq : ∀ w ∈ tw, w.before _ s = true := fun w h => hts w (List.mem_cons_of_mem _ h)
  have hown : s.vm.findClass RX12 = some m.cls := findClass_of_methodNamed B.named
  have hlocks := B.notSynchronized
  subst hsz
  have hD := hD0.self (sz := s.heap.size)
  generalize hAe : va_A [(m0, .inr (12, [.int th, .ref lr, .ref ld, .ref o1, .int (-1), .int (-1), .int 0, .ref o2, .ref o3, .ref o4, .ref o5, .ref o6, .ref o7, .ref o8, .ref o9, .ref o10, .int 0, .int 0, .null, .int 0, .int 45, .ref t1, .ref t2, .ref t3, .ref t4, .ref t5])), (lr, .inr (14, [.int 0, .ref tE, .int 0])), (ld, .inr (14, [.int 0, .ref tE, .int 0]))] s.heap.size = A at hD ham ⊢
  have hA : ∀ q : Nat, s.heap.size ≤ q → A q := fun q h => by rw [← hAe]; exact Or.inr h
  have hS : va_S A s.heap s.heap [] := va_S.rf
  have hP : va_P (dC, dI) cls [(m0, .inr (12, [.int th, .ref lr, .ref ld, .ref o1, .int (-1), .int (-1), .int 0, .ref o2, .ref o3, .ref o4, .ref o5, .ref o6, .ref o7, .ref o8, .ref o9, .ref o10, .int 0, .int 0, .null, .int 0, .int 45, .ref t1, .ref t2, .ref t3, .ref t4, .ref t5])), (lr, .inr (14, [.int 0, .ref tE, .int 0])), (ld, .inr (14, [.int 0, .ref tE, .int 0]))] s.heap := hP
  have hl := lv_entry ([.ref m0]) (n := 4) (Nat.le_of_ble_eq_true rfl)
  rw [lg_entry_eq]
  generalize (lg_sl ([.ref m0]) ++ List.replicate (4 - (lg_sl ([.ref m0])).length) Slot.unset).toArray = ls at hl ⊢
  have hl : lv_has ls 4 [(0, .ref m0)] := hl
  refine lv_aload_n hx hb dX12_known_0 rfl (lv_at hl 0 rfl) ?_
  refine lv_aload_n hx hb dX12_known_1 rfl (lv_at hl 0 rfl) ?_
  refine va_get (D := (dC, dI)) (ci := 12) (v := .int 0) (C := RX12) (T := TX12) (N := 26) hx hb hq i_X12 hown hK hP 0 rfl rfl 6 (by decide) (hq _ q_1310) (fun _ h9 => h9) rfl dX12_known_2 ?_
  refine lv_if_eq (tgt := 12) hx hb dX12_known_5 (by decide) (fun c_1 => ?_) (fun c_1 => ?_)
  · refine lv_iconst (v := 1) hx hb dX12_known_12 (by decide) ?_
    have hPc := hP.sub (ws' := [(m0, .inr (12, [.int th, .ref lr, .ref ld, .ref o1, .int (-1), .int (-1), .int 0, .ref o2, .ref o3, .ref o4, .ref o5, .ref o6, .ref o7, .ref o8, .ref o9, .ref o10, .int 0, .int 0, .null, .int 0, .int 45, .ref t1, .ref t2, .ref t3, .ref t4, .ref t5]))]) [0] rfl
    have hKc := hK.sub (tys' := []) [] rfl
    have hDc := hD.sub (ws' := [(m0, .inr (12, [.int th, .ref lr, .ref ld, .ref o1, .int (-1), .int (-1), .int 0, .ref o2, .ref o3, .ref o4, .ref o5, .ref o6, .ref o7, .ref o8, .ref o9, .ref o10, .int 0, .int 0, .null, .int 0, .int 45, .ref t1, .ref t2, .ref t3, .ref t4, .ref t5]))]) [0] (by decide) rfl
    have hFc := va_free (wc := [(m0, .inr (12, [.int th, .ref lr, .ref ld, .ref o1, .int (-1), .int (-1), .int 0, .ref o2, .ref o3, .ref o4, .ref o5, .ref o6, .ref o7, .ref o8, .ref o9, .ref o10, .int 0, .int 0, .null, .int 0, .int 45, .ref t1, .ref t2, .ref t3, .ref t4, .ref t5]))]) hD hS hA [0] rfl
    refine va_calli (va_runV (As := [.int 1]) (rest := []) ⟨hx, hb, hml, hown, hq⟩ (c_isWrong1 l hst tE adK adV dC dI m0 lr ld o1 o2 o3 o4 o5 o6 o7 o8 o9 o10 t1 t2 t3 t4 t5 th s.heap.size) (tcV 1 hq q_1488 q_12 q_1485 q_1487 qp_22 rfl rfl (by decide +kernel) ⟨Nat.le_of_ble_eq_true rfl, Nat.le_of_ble_eq_true rfl⟩) (pre.V (va_recv hK hP (ci := 12) (q0 := 0) rfl rfl) (pre.of hPc hDc hKc ham hS hFc)) rfl rfl hl.1 rfl (lv_room (Nat.le_of_ble_eq_true rfl)) dX12_known_13 ⟨Nat.le_of_ble_eq_true rfl, Nat.le_of_ble_eq_true rfl⟩) hS (fun q _ h => hFc q h) hFc (fun r_2 u t H1 locs ht hvm hw hB hz1 hk1 hS => ?_)
    obtain ⟨hP1, hK1, hD1⟩ := hB
    rw [ht] at hP1
    have hK1 := va_K.moved hvm.symm hK1
    obtain ⟨hP, hD⟩ := va_join (wr := [(lr, .inr (14, [.int 0, .ref tE, .int 0])), (ld, .inr (14, [.int 0, .ref tE, .int 0]))]) (w1 := [(m0, .inr (12, [.int 1, .ref lr, .ref ld, .ref o1, .int (-1), .int (-1), .int 0, .ref o2, .ref o3, .ref o4, .ref o5, .ref o6, .ref o7, .ref o8, .ref o9, .ref o10, .int 0, .int 0, .null, .int 0, .int 45, .ref t1, .ref t2, .ref t3, .ref t4, .ref t5]))]) (wc := [(m0, .inr (12, [.int th, .ref lr, .ref ld, .ref o1, .int (-1), .int (-1), .int 0, .ref o2, .ref o3, .ref o4, .ref o5, .ref o6, .ref o7, .ref o8, .ref o9, .ref o10, .int 0, .int 0, .null, .int 0, .int 45, .ref t1, .ref t2, .ref t3, .ref t4, .ref t5]))]) hP hD [0] [1, 2] rfl rfl (by decide) (by decide) hk1 hFc hP1 hD1
    have hK := (hK.sub (tys' := []) [] rfl).app hK1
    generalize H1 = H at hP hS ⊢
    have hP : va_P (dC, dI) cls [(lr, .inr (14, [.int 0, .ref tE, .int 0])), (ld, .inr (14, [.int 0, .ref tE, .int 0])), (m0, .inr (12, [.int 1, .ref lr, .ref ld, .ref o1, .int (-1), .int (-1), .int 0, .ref o2, .ref o3, .ref o4, .ref o5, .ref o6, .ref o7, .ref o8, .ref o9, .ref o10, .int 0, .int 0, .null, .int 0, .int 45, .ref t1, .ref t2, .ref t3, .ref t4, .ref t5]))] H := hP
    have hD : va_D A [(lr, .inr (14, [.int 0, .ref tE, .int 0])), (ld, .inr (14, [.int 0, .ref tE, .int 0])), (m0, .inr (12, [.int 1, .ref lr, .ref ld, .ref o1, .int (-1), .int (-1), .int 0, .ref o2, .ref o3, .ref o4, .ref o5, .ref o6, .ref o7, .ref o8, .ref o9, .ref o10, .int 0, .int 0, .null, .int 0, .int 45, .ref t1, .ref t2, .ref t3, .ref t4, .ref t5]))] := hD
    have hK : va_K (dC, dI) cls [] s := hK
    refine W.widen (k := 0) (n := 0) (Nat.le_of_ble_eq_true rfl) (Nat.le_of_ble_eq_true rfl) ?_
    have hw : r_2 = 1 := hw
    subst hw
    refine lv_if_eq (tgt := 21) hx hb dX12_known_16 (by decide) (fun c_3 => ?_) (fun c_3 => ?_)
    · exact absurd c_3 (by decide)
    · refine lv_iconst (v := 0) hx hb dX12_known_19 (by decide) ?_
      refine W.widen (k := 0) (n := 0) (Nat.le_of_ble_eq_true rfl) (Nat.le_of_ble_eq_true rfl) ?_
      have hP9 := hP.sub (ws' := [(m0, .inr (12, [.int 1, .ref lr, .ref ld, .ref o1, .int (-1), .int (-1), .int 0, .ref o2, .ref o3, .ref o4, .ref o5, .ref o6, .ref o7, .ref o8, .ref o9, .ref o10, .int 0, .int 0, .null, .int 0, .int 45, .ref t1, .ref t2, .ref t3, .ref t4, .ref t5]))]) [2] rfl
      have hD9 := hD.sub (ws' := [(m0, .inr (12, [.int 1, .ref lr, .ref ld, .ref o1, .int (-1), .int (-1), .int 0, .ref o2, .ref o3, .ref o4, .ref o5, .ref o6, .ref o7, .ref o8, .ref o9, .ref o10, .int 0, .int 0, .null, .int 0, .int 45, .ref t1, .ref t2, .ref t3, .ref t4, .ref t5]))]) [2] (by decide) rfl
      have hK9 := hK.sub (tys' := []) [] rfl
      exact W.iret (v := 0) hx hb hr (fun t ht hW => ⟨⟨0, (), rfl, trivial, ⟨by rw [ht]; exact hP9, va_K.moved hW.alike hK9, hD9⟩⟩, hS.F ht⟩) hS.2.2 dX12_known_20
  · exact absurd c_1 (by decide)
abbrev cX12_claim : ByteArray := prog_13_method_54_code
def yX12_claim : MethodName := ⟨RX12, "claim", "(IIC)I"⟩
theorem dX12_claim_0 : decode cX12_claim 0 = .ok (.aload_n 0, 1) := by decide +kernel
theorem dX12_claim_1 : decode cX12_claim 1 = .ok (.aload_n 0, 1) := by decide +kernel
theorem dX12_claim_2 : decode cX12_claim 2 = .ok (.iload_n 1, 1) := by decide +kernel
theorem dX12_claim_3 : decode cX12_claim 3 = .ok (.iload_n 2, 1) := by decide +kernel
theorem dX12_claim_4 : decode cX12_claim 4 = .ok (.invokevirtual 140, 3) := by decide +kernel
theorem dX12_claim_7 : decode cX12_claim 7 = .ok (.ifCond .ne 7, 3) := by decide +kernel
theorem dX12_claim_10 : decode cX12_claim 10 = .ok (.iconst 1, 1) := by decide +kernel
theorem dX12_claim_11 : decode cX12_claim 11 = .ok (.goto 51, 3) := by decide +kernel
theorem dX12_claim_62 : decode cX12_claim 62 = .ok (.invokevirtual 110, 3) := by decide +kernel
theorem dX12_claim_65 : decode cX12_claim 65 = .ok (.ifCond .eq 5, 3) := by decide +kernel
theorem dX12_claim_68 : decode cX12_claim 68 = .ok (.iconst 0, 1) := by decide +kernel
theorem dX12_claim_69 : decode cX12_claim 69 = .ok (.ireturn, 1) := by decide +kernel
set_option maxHeartbeats 4000000 in
set_option maxRecDepth 100000 in
theorem c_M_claim (l : Launch) (hst : l.stackTraces = false) (tE : Nat) (adK adV : Nat → Nat) (dC : Nat → ClassId) (dI : Nat → Nat → Nat) (m0 : Nat) (lr : Nat) (ld : Nat) (o1 : Nat) (o2 : Nat) (o3 : Nat) (o4 : Nat) (o5 : Nat) (o6 : Nat) (o7 : Nat) (o8 : Nat) (o9 : Nat) (o10 : Nat) (t1 : Nat) (t2 : Nat) (t3 : Nat) (t4 : Nat) (t5 : Nat) (th : Int32) (p1 : Int32) (p2 : Int32) (p3 : Int32) (sz : Nat) : Met l yX12_claim (Cond.code yX12_claim cX12_claim 4 (some .int) :: tw) ({ frames := 3, cells := 0, slots := 0, locals := 63 }) (va_Pc [.ref m0, .int p1, .int p2, .int p3] (pre tE adK adV (dC, dI) [(m0, .inr (12, [.int th, .ref lr, .ref ld, .ref o1, .int (-1), .int (-1), .int 0, .ref o2, .ref o3, .ref o4, .ref o5, .ref o6, .ref o7, .ref o8, .ref o9, .ref o10, .int 0, .int 0, .null, .int 0, .int 45, .ref t1, .ref t2, .ref t3, .ref t4, .ref t5])), (lr, .inr (14, [.int 0, .ref tE, .int 0])), (ld, .inr (14, [.int 0, .ref tE, .int 0]))] [] sz)) (va_Qi (fun (r : Int32) (_ : Unit) => True) (fun (_ : Unit) (t : State) => va_P (dC, dI) cls [(m0, .inr (12, [.int 1, .ref lr, .ref ld, .ref o1, .int (-1), .int (-1), .int 0, .ref o2, .ref o3, .ref o4, .ref o5, .ref o6, .ref o7, .ref o8, .ref o9, .ref o10, .int 0, .int 0, .null, .int 0, .int 45, .ref t1, .ref t2, .ref t3, .ref t4, .ref t5]))] t.heap ∧ va_K (dC, dI) cls [] t ∧ va_D (va_A [(m0, .inr (12, [.int th, .ref lr, .ref ld, .ref o1, .int (-1), .int (-1), .int 0, .ref o2, .ref o3, .ref o4, .ref o5, .ref o6, .ref o7, .ref o8, .ref o9, .ref o10, .int 0, .int 0, .null, .int 0, .int 45, .ref t1, .ref t2, .ref t3, .ref t4, .ref t5])), (lr, .inr (14, [.int 0, .ref tE, .int 0])), (ld, .inr (14, [.int 0, .ref tE, .int 0]))] sz) [(m0, .inr (12, [.int 1, .ref lr, .ref ld, .ref o1, .int (-1), .int (-1), .int 0, .ref o2, .ref o3, .ref o4, .ref o5, .ref o6, .ref o7, .ref o8, .ref o9, .ref o10, .int 0, .int 0, .null, .int 0, .int 45, .ref t1, .ref t2, .ref t3, .ref t4, .ref t5]))]) (va_A [(m0, .inr (12, [.int th, .ref lr, .ref ld, .ref o1, .int (-1), .int (-1), .int 0, .ref o2, .ref o3, .ref o4, .ref o5, .ref o6, .ref o7, .ref o8, .ref o9, .ref o10, .int 0, .int 0, .null, .int 0, .int 45, .ref t1, .ref t2, .ref t3, .ref t4, .ref t5])), (lr, .inr (14, [.int 0, .ref tE, .int 0])), (ld, .inr (14, [.int 0, .ref tE, .int 0]))] sz)) 0 0 (va_A [(m0, .inr (12, [.int th, .ref lr, .ref ld, .ref o1, .int (-1), .int (-1), .int 0, .ref o2, .ref o3, .ref o4, .ref o5, .ref o6, .ref o7, .ref o8, .ref o9, .ref o10, .int 0, .int 0, .null, .int 0, .int 45, .ref t1, .ref t2, .ref t3, .ref t4, .ref t5])), (lr, .inr (14, [.int 0, .ref tE, .int 0])), (ld, .inr (14, [.int 0, .ref tE, .int 0]))] sz) := by
  refine Met.ofW (cc := cX12_claim) (maxL := 4) (ret := (some .int)) (by decide) rfl ?_
  intro p e s m args below meth c s₁ B hml hv
  obtain ⟨rfl, hsz, hP, hK, hD0, ham⟩ := hv
  have hx := B.exec
  have hb := B.bytes
  have hr := B.returns
  have hts := atoms_spec B.pre
  have hq : ∀ w ∈ tw, w.before _ s = true := fun w h => hts w (List.mem_cons_of_mem _ h)
  have hown : s.vm.findClass RX12 = some m.cls := findClass_of_methodNamed B.named
  have hlocks := B.notSynchronized
  subst hsz
  have hD := hD0.self (sz := s.heap.size)
  generalize hAe : va_A [(m0, .inr (12, [.int th, .ref lr, .ref ld, .ref o1, .int (-1), .int (-1), .int 0, .ref o2, .ref o3, .ref o4, .ref o5, .ref o6, .ref o7, .ref o8, .ref o9, .ref o10, .int 0, .int 0, .null, .int 0, .int 45, .ref t1, .ref t2, .ref t3, .ref t4, .ref t5])), (lr, .inr (14, [.int 0, .ref tE, .int 0])), (ld, .inr (14, [.int 0, .ref tE, .int 0]))] s.heap.size = A at hD ham ⊢
  have hA : ∀ q : Nat, s.heap.size ≤ q → A q := fun q h => by rw [← hAe]; exact Or.inr h
  have hS : va_S A s.heap s.heap [] := va_S.rf
  have hP : va_P (dC, dI) cls [(m0, .inr (12, [.int th, .ref lr, .ref ld, .ref o1, .int (-1), .int (-1), .int 0, .ref o2, .ref o3, .ref o4, .ref o5, .ref o6, .ref o7, .ref o8, .ref o9, .ref o10, .int 0, .int 0, .null, .int 0, .int 45, .ref t1, .ref t2, .ref t3, .ref t4, .ref t5])), (lr, .inr (14, [.int 0, .ref tE, .int 0])), (ld, .inr (14, [.int 0, .ref tE, .int 0]))] s.heap := hP
  have hl := lv_entry ([.ref m0, .int p1, .int p2, .int p3]) (n := 4) (Nat.le_of_ble_eq_true rfl)
  rw [lg_entry_eq]
  generalize (lg_sl ([.ref m0, .int p1, .int p2, .int p3]) ++ List.replicate (4 - (lg_sl ([.ref m0, .int p1, .int p2, .int p3])).length) Slot.unset).toArray = ls at hl ⊢
  have hl : lv_has ls 4 [(0, .ref m0), (1, .int p1), (2, .int p2), (3, .int p3)] := hl
  refine lv_aload_n hx hb dX12_claim_0 rfl (lv_at hl 0 rfl) ?_
  refine lv_aload_n hx hb dX12_claim_1 rfl (lv_at hl 0 rfl) ?_
  refine lv_iload_n hx hb dX12_claim_2 rfl (lv_at hl 1 rfl) ?_
  refine lv_iload_n hx hb dX12_claim_3 rfl (lv_at hl 2 rfl) ?_
  have hPc := hP.sub (ws' := [(m0, .inr (12, [.int th, .ref lr, .ref ld, .ref o1, .int (-1), .int (-1), .int 0, .ref o2, .ref o3, .ref o4, .ref o5, .ref o6, .ref o7, .ref o8, .ref o9, .ref o10, .int 0, .int 0, .null, .int 0, .int 45, .ref t1, .ref t2, .ref t3, .ref t4, .ref t5])), (ld, .inr (14, [.int 0, .ref tE, .int 0]))]) [0, 2] rfl
  have hKc := hK.sub (tys' := []) [] rfl
  refine va_calli (va_runV (As := [.int p1, .int p2]) (rest := [.ref m0]) ⟨hx, hb, hml, hown, hq⟩ (c_areSeats l hst tE adK adV dC dI m0 lr ld o1 o2 o3 o4 o5 o6 o7 o8 o9 o10 t1 t2 t3 t4 t5 th p1 p2 s.heap.size) (tcV 2 hq q_1650 q_12 q_1647 q_1649 qp_26 rfl rfl (by decide +kernel) ⟨Nat.le_of_ble_eq_true rfl, Nat.le_of_ble_eq_true rfl⟩) (preR.V (va_recv hK hP (ci := 12) (q0 := 0) rfl rfl) (preR.of hPc hKc ham hS hA)) rfl rfl hl.1 rfl (lv_room (Nat.le_of_ble_eq_true rfl)) dX12_claim_4 ⟨Nat.le_of_ble_eq_true rfl, Nat.le_of_ble_eq_true rfl⟩) hS (fun q _ h => hA q (Nat.le_trans hS.1 h)) (fun q h => hA q (Nat.le_trans hS.1 h)) (fun r_1 u t H1 locs ht hvm hw hB hz1 hk1 hS => ?_)
  have hP : va_P (dC, dI) cls [(m0, .inr (12, [.int th, .ref lr, .ref ld, .ref o1, .int (-1), .int (-1), .int 0, .ref o2, .ref o3, .ref o4, .ref o5, .ref o6, .ref o7, .ref o8, .ref o9, .ref o10, .int 0, .int 0, .null, .int 0, .int 45, .ref t1, .ref t2, .ref t3, .ref t4, .ref t5])), (lr, .inr (14, [.int 0, .ref tE, .int 0])), (ld, .inr (14, [.int 0, .ref tE, .int 0]))] H1 := ro_keep hP hk1
  generalize H1 = H at hP hS ⊢
  refine W.widen (k := 0) (n := 0) (Nat.le_of_ble_eq_true rfl) (Nat.le_of_ble_eq_true rfl) ?_
  have hw : r_1 = 0 := hw
  subst hw
  refine lv_if_ne (tgt := 14) hx hb dX12_claim_7 (by decide) (fun c_2 => ?_) (fun c_2 => ?_)
  · exact absurd c_2 (by decide)
  · refine lv_iconst (v := 1) hx hb dX12_claim_10 (by decide) ?_
    refine lv_goto (tgt := 62) hx hb dX12_claim_11 (by decide) ?_
    have hPc := hP.sub (ws' := [(m0, .inr (12, [.int th, .ref lr, .ref ld, .ref o1, .int (-1), .int (-1), .int 0, .ref o2, .ref o3, .ref o4, .ref o5, .ref o6, .ref o7, .ref o8, .ref o9, .ref o10, .int 0, .int 0, .null, .int 0, .int 45, .ref t1, .ref t2, .ref t3, .ref t4, .ref t5]))]) [0] rfl
    have hKc := hK.sub (tys' := []) [] rfl
    have hDc := hD.sub (ws' := [(m0, .inr (12, [.int th, .ref lr, .ref ld, .ref o1, .int (-1), .int (-1), .int 0, .ref o2, .ref o3, .ref o4, .ref o5, .ref o6, .ref o7, .ref o8, .ref o9, .ref o10, .int 0, .int 0, .null, .int 0, .int 45, .ref t1, .ref t2, .ref t3, .ref t4, .ref t5]))]) [0] (by decide) rfl
    have hFc := va_free (wc := [(m0, .inr (12, [.int th, .ref lr, .ref ld, .ref o1, .int (-1), .int (-1), .int 0, .ref o2, .ref o3, .ref o4, .ref o5, .ref o6, .ref o7, .ref o8, .ref o9, .ref o10, .int 0, .int 0, .null, .int 0, .int 45, .ref t1, .ref t2, .ref t3, .ref t4, .ref t5]))]) hD hS hA [0] rfl
    refine va_calli (va_runV (As := [.int 1]) (rest := []) ⟨hx, hb, hml, hown, hq⟩ (c_isWrong1 l hst tE adK adV dC dI m0 lr ld o1 o2 o3 o4 o5 o6 o7 o8 o9 o10 t1 t2 t3 t4 t5 th H.size) (tcV 1 hq q_1488 q_12 q_1485 q_1487 qp_22 rfl rfl (by decide +kernel) ⟨Nat.le_of_ble_eq_true rfl, Nat.le_of_ble_eq_true rfl⟩) (pre.V (va_recv hK hP (ci := 12) (q0 := 0) rfl rfl) (pre.of hPc hDc hKc ham hS hFc)) rfl rfl hl.1 rfl (lv_room (Nat.le_of_ble_eq_true rfl)) dX12_claim_62 ⟨Nat.le_of_ble_eq_true rfl, Nat.le_of_ble_eq_true rfl⟩) hS (fun q _ h => hFc q h) hFc (fun r_3 u t H1 locs ht hvm hw hB hz1 hk1 hS => ?_)
    obtain ⟨hP1, hK1, hD1⟩ := hB
    rw [ht] at hP1
    have hK1 := va_K.moved hvm.symm hK1
    obtain ⟨hP, hD⟩ := va_join (wr := [(lr, .inr (14, [.int 0, .ref tE, .int 0])), (ld, .inr (14, [.int 0, .ref tE, .int 0]))]) (w1 := [(m0, .inr (12, [.int 1, .ref lr, .ref ld, .ref o1, .int (-1), .int (-1), .int 0, .ref o2, .ref o3, .ref o4, .ref o5, .ref o6, .ref o7, .ref o8, .ref o9, .ref o10, .int 0, .int 0, .null, .int 0, .int 45, .ref t1, .ref t2, .ref t3, .ref t4, .ref t5]))]) (wc := [(m0, .inr (12, [.int th, .ref lr, .ref ld, .ref o1, .int (-1), .int (-1), .int 0, .ref o2, .ref o3, .ref o4, .ref o5, .ref o6, .ref o7, .ref o8, .ref o9, .ref o10, .int 0, .int 0, .null, .int 0, .int 45, .ref t1, .ref t2, .ref t3, .ref t4, .ref t5]))]) hP hD [0] [1, 2] rfl rfl (by decide) (by decide) hk1 hFc hP1 hD1
    have hK := (hK.sub (tys' := []) [] rfl).app hK1
    generalize H1 = H at hP hS ⊢
    have hP : va_P (dC, dI) cls [(lr, .inr (14, [.int 0, .ref tE, .int 0])), (ld, .inr (14, [.int 0, .ref tE, .int 0])), (m0, .inr (12, [.int 1, .ref lr, .ref ld, .ref o1, .int (-1), .int (-1), .int 0, .ref o2, .ref o3, .ref o4, .ref o5, .ref o6, .ref o7, .ref o8, .ref o9, .ref o10, .int 0, .int 0, .null, .int 0, .int 45, .ref t1, .ref t2, .ref t3, .ref t4, .ref t5]))] H := hP
    have hD : va_D A [(lr, .inr (14, [.int 0, .ref tE, .int 0])), (ld, .inr (14, [.int 0, .ref tE, .int 0])), (m0, .inr (12, [.int 1, .ref lr, .ref ld, .ref o1, .int (-1), .int (-1), .int 0, .ref o2, .ref o3, .ref o4, .ref o5, .ref o6, .ref o7, .ref o8, .ref o9, .ref o10, .int 0, .int 0, .null, .int 0, .int 45, .ref t1, .ref t2, .ref t3, .ref t4, .ref t5]))] := hD
    have hK : va_K (dC, dI) cls [] s := hK
    refine W.widen (k := 0) (n := 0) (Nat.le_of_ble_eq_true rfl) (Nat.le_of_ble_eq_true rfl) ?_
    have hw : r_3 = 1 := hw
    subst hw
    refine lv_if_eq (tgt := 70) hx hb dX12_claim_65 (by decide) (fun c_4 => ?_) (fun c_4 => ?_)
    · exact absurd c_4 (by decide)
    · refine lv_iconst (v := 0) hx hb dX12_claim_68 (by decide) ?_
      refine W.widen (k := 0) (n := 0) (Nat.le_of_ble_eq_true rfl) (Nat.le_of_ble_eq_true rfl) ?_
      have hP9 := hP.sub (ws' := [(m0, .inr (12, [.int 1, .ref lr, .ref ld, .ref o1, .int (-1), .int (-1), .int 0, .ref o2, .ref o3, .ref o4, .ref o5, .ref o6, .ref o7, .ref o8, .ref o9, .ref o10, .int 0, .int 0, .null, .int 0, .int 45, .ref t1, .ref t2, .ref t3, .ref t4, .ref t5]))]) [2] rfl
      have hD9 := hD.sub (ws' := [(m0, .inr (12, [.int 1, .ref lr, .ref ld, .ref o1, .int (-1), .int (-1), .int 0, .ref o2, .ref o3, .ref o4, .ref o5, .ref o6, .ref o7, .ref o8, .ref o9, .ref o10, .int 0, .int 0, .null, .int 0, .int 45, .ref t1, .ref t2, .ref t3, .ref t4, .ref t5]))]) [2] (by decide) rfl
      have hK9 := hK.sub (tys' := []) [] rfl
      exact W.iret (v := 0) hx hb hr (fun t ht hW => ⟨⟨0, (), rfl, trivial, ⟨by rw [ht]; exact hP9, va_K.moved hW.alike hK9, hD9⟩⟩, hS.F ht⟩) hS.2.2 dX12_claim_69
abbrev cX12_holds : ByteArray := prog_13_method_56_code
def yX12_holds : MethodName := ⟨RX12, "holds", "(II)C"⟩
theorem dX12_holds_0 : decode cX12_holds 0 = .ok (.aload_n 0, 1) := by decide +kernel
theorem dX12_holds_1 : decode cX12_holds 1 = .ok (.aload_n 0, 1) := by decide +kernel
theorem dX12_holds_2 : decode cX12_holds 2 = .ok (.getfield 26, 3) := by decide +kernel
theorem dX12_holds_5 : decode cX12_holds 5 = .ok (.iload_n 1, 1) := by decide +kernel
theorem dX12_holds_6 : decode cX12_holds 6 = .ok (.invokestatic 123, 3) := by decide +kernel
theorem dX12_holds_9 : decode cX12_holds 9 = .ok (.ifCond .eq 18, 3) := by decide +kernel
theorem dX12_holds_27 : decode cX12_holds 27 = .ok (.iconst 1, 1) := by decide +kernel
theorem dX12_holds_28 : decode cX12_holds 28 = .ok (.invokevirtual 110, 3) := by decide +kernel
theorem dX12_holds_31 : decode cX12_holds 31 = .ok (.ifCond .eq 7, 3) := by decide +kernel
theorem dX12_holds_34 : decode cX12_holds 34 = .ok (.iconst 0, 1) := by decide +kernel
theorem dX12_holds_35 : decode cX12_holds 35 = .ok (.goto 25, 3) := by decide +kernel
theorem dX12_holds_60 : decode cX12_holds 60 = .ok (.ireturn, 1) := by decide +kernel
set_option maxHeartbeats 4000000 in
set_option maxRecDepth 100000 in
theorem c_M_holds (l : Launch) (hst : l.stackTraces = false) (tE : Nat) (adK adV : Nat → Nat) (dC : Nat → ClassId) (dI : Nat → Nat → Nat) (m0 : Nat) (lr : Nat) (ld : Nat) (o1 : Nat) (o2 : Nat) (o3 : Nat) (o4 : Nat) (o5 : Nat) (o6 : Nat) (o7 : Nat) (o8 : Nat) (o9 : Nat) (o10 : Nat) (t1 : Nat) (t2 : Nat) (t3 : Nat) (t4 : Nat) (t5 : Nat) (th : Int32) (p1 : Int32) (p2 : Int32) (sz : Nat) : Met l yX12_holds (Cond.code yX12_holds cX12_holds 3 (some .char) :: tw) ({ frames := 2, cells := 0, slots := 0, locals := 41 }) (va_Pc [.ref m0, .int p1, .int p2] (pre tE adK adV (dC, dI) [(m0, .inr (12, [.int th, .ref lr, .ref ld, .ref o1, .int (-1), .int (-1), .int 0, .ref o2, .ref o3, .ref o4, .ref o5, .ref o6, .ref o7, .ref o8, .ref o9, .ref o10, .int 0, .int 0, .null, .int 0, .int 45, .ref t1, .ref t2, .ref t3, .ref t4, .ref t5])), (lr, .inr (14, [.int 0, .ref tE, .int 0])), (ld, .inr (14, [.int 0, .ref tE, .int 0]))] [] sz)) (va_Qi (fun (r : Int32) (_ : Unit) => True) (fun (_ : Unit) (t : State) => va_P (dC, dI) cls [(m0, .inr (12, [.int 1, .ref lr, .ref ld, .ref o1, .int (-1), .int (-1), .int 0, .ref o2, .ref o3, .ref o4, .ref o5, .ref o6, .ref o7, .ref o8, .ref o9, .ref o10, .int 0, .int 0, .null, .int 0, .int 45, .ref t1, .ref t2, .ref t3, .ref t4, .ref t5]))] t.heap ∧ va_K (dC, dI) cls [] t ∧ va_D (va_A [(m0, .inr (12, [.int th, .ref lr, .ref ld, .ref o1, .int (-1), .int (-1), .int 0, .ref o2, .ref o3, .ref o4, .ref o5, .ref o6, .ref o7, .ref o8, .ref o9, .ref o10, .int 0, .int 0, .null, .int 0, .int 45, .ref t1, .ref t2, .ref t3, .ref t4, .ref t5])), (lr, .inr (14, [.int 0, .ref tE, .int 0])), (ld, .inr (14, [.int 0, .ref tE, .int 0]))] sz) [(m0, .inr (12, [.int 1, .ref lr, .ref ld, .ref o1, .int (-1), .int (-1), .int 0, .ref o2, .ref o3, .ref o4, .ref o5, .ref o6, .ref o7, .ref o8, .ref o9, .ref o10, .int 0, .int 0, .null, .int 0, .int 45, .ref t1, .ref t2, .ref t3, .ref t4, .ref t5]))]) (va_A [(m0, .inr (12, [.int th, .ref lr, .ref ld, .ref o1, .int (-1), .int (-1), .int 0, .ref o2, .ref o3, .ref o4, .ref o5, .ref o6, .ref o7, .ref o8, .ref o9, .ref o10, .int 0, .int 0, .null, .int 0, .int 45, .ref t1, .ref t2, .ref t3, .ref t4, .ref t5])), (lr, .inr (14, [.int 0, .ref tE, .int 0])), (ld, .inr (14, [.int 0, .ref tE, .int 0]))] sz)) 0 0 (va_A [(m0, .inr (12, [.int th, .ref lr, .ref ld, .ref o1, .int (-1), .int (-1), .int 0, .ref o2, .ref o3, .ref o4, .ref o5, .ref o6, .ref o7, .ref o8, .ref o9, .ref o10, .int 0, .int 0, .null, .int 0, .int 45, .ref t1, .ref t2, .ref t3, .ref t4, .ref t5])), (lr, .inr (14, [.int 0, .ref tE, .int 0])), (ld, .inr (14, [.int 0, .ref tE, .int 0]))] sz) := by
  refine Met.ofW (cc := cX12_holds) (maxL := 3) (ret := (some .char)) (by decide) rfl ?_
  intro p e s m args below meth c s₁ B hml hv
  obtain ⟨rfl, hsz, hP, hK, hD0, ham⟩ := hv
  have hx := B.exec
  have hb := B.bytes
  have hr := B.returns
  have hts := atoms_spec B.pre
  have hq : ∀ w ∈ tw, w.before _ s = true := fun w h => hts w (List.mem_cons_of_mem _ h)
  have hown : s.vm.findClass RX12 = some m.cls := findClass_of_methodNamed B.named
  have hlocks := B.notSynchronized
  subst hsz
  have hD := hD0.self (sz := s.heap.size)
  generalize hAe : va_A [(m0, .inr (12, [.int th, .ref lr, .ref ld, .ref o1, .int (-1), .int (-1), .int 0, .ref o2, .ref o3, .ref o4, .ref o5, .ref o6, .ref o7, .ref o8, .ref o9, .ref o10, .int 0, .int 0, .null, .int 0, .int 45, .ref t1, .ref t2, .ref t3, .ref t4, .ref t5])), (lr, .inr (14, [.int 0, .ref tE, .int 0])), (ld, .inr (14, [.int 0, .ref tE, .int 0]))] s.heap.size = A at hD ham ⊢
  have hA : ∀ q : Nat, s.heap.size ≤ q → A q := fun q h => by rw [← hAe]; exact Or.inr h
  have hS : va_S A s.heap s.heap [] := va_S.rf
  have hP : va_P (dC, dI) cls [(m0, .inr (12, [.int th, .ref lr, .ref ld, .ref o1, .int (-1), .int (-1), .int 0, .ref o2, .ref o3, .ref o4, .ref o5, .ref o6, .ref o7, .ref o8, .ref o9, .ref o10, .int 0, .int 0, .null, .int 0, .int 45, .ref t1, .ref t2, .ref t3, .ref t4, .ref t5])), (lr, .inr (14, [.int 0, .ref tE, .int 0])), (ld, .inr (14, [.int 0, .ref tE, .int 0]))] s.heap := hP
  have hl := lv_entry ([.ref m0, .int p1, .int p2]) (n := 3) (Nat.le_of_ble_eq_true rfl)
  rw [lg_entry_eq]
  generalize (lg_sl ([.ref m0, .int p1, .int p2]) ++ List.replicate (3 - (lg_sl ([.ref m0, .int p1, .int p2])).length) Slot.unset).toArray = ls at hl ⊢
  have hl : lv_has ls 3 [(0, .ref m0), (1, .int p1), (2, .int p2)] := hl
  refine lv_aload_n hx hb dX12_holds_0 rfl (lv_at hl 0 rfl) ?_
  refine lv_aload_n hx hb dX12_holds_1 rfl (lv_at hl 0 rfl) ?_
  refine va_get (D := (dC, dI)) (ci := 12) (v := .ref ld) (C := RX12) (T := TX12) (N := 26) hx hb hq i_X12 hown hK hP 0 rfl rfl 2 (by decide) (hq _ q_1306) (fun _ h9 => h9) rfl dX12_holds_2 ?_
  refine lv_iload_n hx hb dX12_holds_5 rfl (lv_at hl 1 rfl) ?_
  have hPc := hP.sub (ws' := [(ld, .inr (14, [.int 0, .ref tE, .int 0]))]) [2] rfl
  have hKc := hK.sub (tys' := []) [] rfl
  refine va_calli (va_runS (As := [.ref ld, .int p1]) (rest := [.ref m0]) ⟨hx, hb, hml, hown, hq⟩ (c_isOf l hst tE adK adV dC dI ld p1 s.heap.size) (tcS 2 hq q_1599 q_12 q_1597 q_1598 rfl rfl (by decide +kernel) ⟨Nat.le_of_ble_eq_true rfl, Nat.le_of_ble_eq_true rfl⟩) (preR.S (preR.of hPc hKc ham hS hA)) rfl rfl hl.1 rfl (lv_room (Nat.le_of_ble_eq_true rfl)) dX12_holds_6 ⟨Nat.le_of_ble_eq_true rfl, Nat.le_of_ble_eq_true rfl⟩) hS (fun q _ h => hA q (Nat.le_trans hS.1 h)) (fun q h => hA q (Nat.le_trans hS.1 h)) (fun r_1 u t H1 locs ht hvm hw hB hz1 hk1 hS => ?_)
  have hP : va_P (dC, dI) cls [(m0, .inr (12, [.int th, .ref lr, .ref ld, .ref o1, .int (-1), .int (-1), .int 0, .ref o2, .ref o3, .ref o4, .ref o5, .ref o6, .ref o7, .ref o8, .ref o9, .ref o10, .int 0, .int 0, .null, .int 0, .int 45, .ref t1, .ref t2, .ref t3, .ref t4, .ref t5])), (lr, .inr (14, [.int 0, .ref tE, .int 0])), (ld, .inr (14, [.int 0, .ref tE, .int 0]))] H1 := ro_keep hP hk1
  generalize H1 = H at hP hS ⊢
  refine W.widen (k := 0) (n := 0) (Nat.le_of_ble_eq_true rfl) (Nat.le_of_ble_eq_true rfl) ?_
  have hw : r_1 = 0 := hw
  subst hw
  refine lv_if_eq (tgt := 27) hx hb dX12_holds_9 (by decide) (fun c_2 => ?_) (fun c_2 => ?_)
  · refine lv_iconst (v := 1) hx hb dX12_holds_27 (by decide) ?_
    have hPc := hP.sub (ws' := [(m0, .inr (12, [.int th, .ref lr, .ref ld, .ref o1, .int (-1), .int (-1), .int 0, .ref o2, .ref o3, .ref o4, .ref o5, .ref o6, .ref o7, .ref o8, .ref o9, .ref o10, .int 0, .int 0, .null, .int 0, .int 45, .ref t1, .ref t2, .ref t3, .ref t4, .ref t5]))]) [0] rfl
    have hKc := hK.sub (tys' := []) [] rfl
    have hDc := hD.sub (ws' := [(m0, .inr (12, [.int th, .ref lr, .ref ld, .ref o1, .int (-1), .int (-1), .int 0, .ref o2, .ref o3, .ref o4, .ref o5, .ref o6, .ref o7, .ref o8, .ref o9, .ref o10, .int 0, .int 0, .null, .int 0, .int 45, .ref t1, .ref t2, .ref t3, .ref t4, .ref t5]))]) [0] (by decide) rfl
    have hFc := va_free (wc := [(m0, .inr (12, [.int th, .ref lr, .ref ld, .ref o1, .int (-1), .int (-1), .int 0, .ref o2, .ref o3, .ref o4, .ref o5, .ref o6, .ref o7, .ref o8, .ref o9, .ref o10, .int 0, .int 0, .null, .int 0, .int 45, .ref t1, .ref t2, .ref t3, .ref t4, .ref t5]))]) hD hS hA [0] rfl
    refine va_calli (va_runV (As := [.int 1]) (rest := []) ⟨hx, hb, hml, hown, hq⟩ (c_isWrong1 l hst tE adK adV dC dI m0 lr ld o1 o2 o3 o4 o5 o6 o7 o8 o9 o10 t1 t2 t3 t4 t5 th H.size) (tcV 1 hq q_1488 q_12 q_1485 q_1487 qp_22 rfl rfl (by decide +kernel) ⟨Nat.le_of_ble_eq_true rfl, Nat.le_of_ble_eq_true rfl⟩) (pre.V (va_recv hK hP (ci := 12) (q0 := 0) rfl rfl) (pre.of hPc hDc hKc ham hS hFc)) rfl rfl hl.1 rfl (lv_room (Nat.le_of_ble_eq_true rfl)) dX12_holds_28 ⟨Nat.le_of_ble_eq_true rfl, Nat.le_of_ble_eq_true rfl⟩) hS (fun q _ h => hFc q h) hFc (fun r_3 u t H1 locs ht hvm hw hB hz1 hk1 hS => ?_)
    obtain ⟨hP1, hK1, hD1⟩ := hB
    rw [ht] at hP1
    have hK1 := va_K.moved hvm.symm hK1
    obtain ⟨hP, hD⟩ := va_join (wr := [(lr, .inr (14, [.int 0, .ref tE, .int 0])), (ld, .inr (14, [.int 0, .ref tE, .int 0]))]) (w1 := [(m0, .inr (12, [.int 1, .ref lr, .ref ld, .ref o1, .int (-1), .int (-1), .int 0, .ref o2, .ref o3, .ref o4, .ref o5, .ref o6, .ref o7, .ref o8, .ref o9, .ref o10, .int 0, .int 0, .null, .int 0, .int 45, .ref t1, .ref t2, .ref t3, .ref t4, .ref t5]))]) (wc := [(m0, .inr (12, [.int th, .ref lr, .ref ld, .ref o1, .int (-1), .int (-1), .int 0, .ref o2, .ref o3, .ref o4, .ref o5, .ref o6, .ref o7, .ref o8, .ref o9, .ref o10, .int 0, .int 0, .null, .int 0, .int 45, .ref t1, .ref t2, .ref t3, .ref t4, .ref t5]))]) hP hD [0] [1, 2] rfl rfl (by decide) (by decide) hk1 hFc hP1 hD1
    have hK := (hK.sub (tys' := []) [] rfl).app hK1
    generalize H1 = H at hP hS ⊢
    have hP : va_P (dC, dI) cls [(lr, .inr (14, [.int 0, .ref tE, .int 0])), (ld, .inr (14, [.int 0, .ref tE, .int 0])), (m0, .inr (12, [.int 1, .ref lr, .ref ld, .ref o1, .int (-1), .int (-1), .int 0, .ref o2, .ref o3, .ref o4, .ref o5, .ref o6, .ref o7, .ref o8, .ref o9, .ref o10, .int 0, .int 0, .null, .int 0, .int 45, .ref t1, .ref t2, .ref t3, .ref t4, .ref t5]))] H := hP
    have hD : va_D A [(lr, .inr (14, [.int 0, .ref tE, .int 0])), (ld, .inr (14, [.int 0, .ref tE, .int 0])), (m0, .inr (12, [.int 1, .ref lr, .ref ld, .ref o1, .int (-1), .int (-1), .int 0, .ref o2, .ref o3, .ref o4, .ref o5, .ref o6, .ref o7, .ref o8, .ref o9, .ref o10, .int 0, .int 0, .null, .int 0, .int 45, .ref t1, .ref t2, .ref t3, .ref t4, .ref t5]))] := hD
    have hK : va_K (dC, dI) cls [] s := hK
    refine W.widen (k := 0) (n := 0) (Nat.le_of_ble_eq_true rfl) (Nat.le_of_ble_eq_true rfl) ?_
    have hw : r_3 = 1 := hw
    subst hw
    refine lv_if_eq (tgt := 38) hx hb dX12_holds_31 (by decide) (fun c_4 => ?_) (fun c_4 => ?_)
    · exact absurd c_4 (by decide)
    · refine lv_iconst (v := 0) hx hb dX12_holds_34 (by decide) ?_
      refine lv_goto (tgt := 60) hx hb dX12_holds_35 (by decide) ?_
      refine W.widen (k := 0) (n := 0) (Nat.le_of_ble_eq_true rfl) (Nat.le_of_ble_eq_true rfl) ?_
      have hP9 := hP.sub (ws' := [(m0, .inr (12, [.int 1, .ref lr, .ref ld, .ref o1, .int (-1), .int (-1), .int 0, .ref o2, .ref o3, .ref o4, .ref o5, .ref o6, .ref o7, .ref o8, .ref o9, .ref o10, .int 0, .int 0, .null, .int 0, .int 45, .ref t1, .ref t2, .ref t3, .ref t4, .ref t5]))]) [2] rfl
      have hD9 := hD.sub (ws' := [(m0, .inr (12, [.int 1, .ref lr, .ref ld, .ref o1, .int (-1), .int (-1), .int 0, .ref o2, .ref o3, .ref o4, .ref o5, .ref o6, .ref o7, .ref o8, .ref o9, .ref o10, .int 0, .int 0, .null, .int 0, .int 45, .ref t1, .ref t2, .ref t3, .ref t4, .ref t5]))]) [2] (by decide) rfl
      have hK9 := hK.sub (tys' := []) [] rfl
      exact W.zret (v := 0) hx hb hr (by decide) (fun t ht hW => ⟨⟨0, (), rfl, trivial, ⟨by rw [ht]; exact hP9, va_K.moved hW.alike hK9, hD9⟩⟩, hS.F ht⟩) hS.2.2 dX12_holds_60
  · exact absurd c_2 (by decide)
abbrev cX12_liars : ByteArray := prog_13_method_57_code
def yX12_liars : MethodName := ⟨RX12, "liars", "(I)I"⟩
theorem dX12_liars_0 : decode cX12_liars 0 = .ok (.aload_n 0, 1) := by decide +kernel
theorem dX12_liars_1 : decode cX12_liars 1 = .ok (.iload_n 1, 1) := by decide +kernel
theorem dX12_liars_2 : decode cX12_liars 2 = .ok (.invokevirtual 247, 3) := by decide +kernel
theorem dX12_liars_5 : decode cX12_liars 5 = .ok (.ifCond .eq 5, 3) := by decide +kernel
theorem dX12_liars_8 : decode cX12_liars 8 = .ok (.iconst 0, 1) := by decide +kernel
theorem dX12_liars_9 : decode cX12_liars 9 = .ok (.ireturn, 1) := by decide +kernel
set_option maxHeartbeats 4000000 in
set_option maxRecDepth 100000 in
theorem c_M_liars (l : Launch) (hst : l.stackTraces = false) (tE : Nat) (adK adV : Nat → Nat) (dC : Nat → ClassId) (dI : Nat → Nat → Nat) (m0 : Nat) (lr : Nat) (ld : Nat) (o1 : Nat) (o2 : Nat) (o3 : Nat) (o4 : Nat) (o5 : Nat) (o6 : Nat) (o7 : Nat) (o8 : Nat) (o9 : Nat) (o10 : Nat) (t1 : Nat) (t2 : Nat) (t3 : Nat) (t4 : Nat) (t5 : Nat) (th : Int32) (p1 : Int32) (sz : Nat) : Met l yX12_liars (Cond.code yX12_liars cX12_liars 9 (some .int) :: tw) ({ frames := 3, cells := 0, slots := 0, locals := 62 }) (va_Pc [.ref m0, .int p1] (pre tE adK adV (dC, dI) [(m0, .inr (12, [.int th, .ref lr, .ref ld, .ref o1, .int (-1), .int (-1), .int 0, .ref o2, .ref o3, .ref o4, .ref o5, .ref o6, .ref o7, .ref o8, .ref o9, .ref o10, .int 0, .int 0, .null, .int 0, .int 45, .ref t1, .ref t2, .ref t3, .ref t4, .ref t5])), (lr, .inr (14, [.int 0, .ref tE, .int 0])), (ld, .inr (14, [.int 0, .ref tE, .int 0]))] [] sz)) (va_Qi (fun (r : Int32) (_ : Unit) => True) (fun (_ : Unit) (t : State) => va_P (dC, dI) cls [(m0, .inr (12, [.int 1, .ref lr, .ref ld, .ref o1, .int (-1), .int (-1), .int 0, .ref o2, .ref o3, .ref o4, .ref o5, .ref o6, .ref o7, .ref o8, .ref o9, .ref o10, .int 0, .int 0, .null, .int 0, .int 45, .ref t1, .ref t2, .ref t3, .ref t4, .ref t5]))] t.heap ∧ va_K (dC, dI) cls [] t ∧ va_D (va_A [(m0, .inr (12, [.int th, .ref lr, .ref ld, .ref o1, .int (-1), .int (-1), .int 0, .ref o2, .ref o3, .ref o4, .ref o5, .ref o6, .ref o7, .ref o8, .ref o9, .ref o10, .int 0, .int 0, .null, .int 0, .int 45, .ref t1, .ref t2, .ref t3, .ref t4, .ref t5])), (lr, .inr (14, [.int 0, .ref tE, .int 0])), (ld, .inr (14, [.int 0, .ref tE, .int 0]))] sz) [(m0, .inr (12, [.int 1, .ref lr, .ref ld, .ref o1, .int (-1), .int (-1), .int 0, .ref o2, .ref o3, .ref o4, .ref o5, .ref o6, .ref o7, .ref o8, .ref o9, .ref o10, .int 0, .int 0, .null, .int 0, .int 45, .ref t1, .ref t2, .ref t3, .ref t4, .ref t5]))]) (va_A [(m0, .inr (12, [.int th, .ref lr, .ref ld, .ref o1, .int (-1), .int (-1), .int 0, .ref o2, .ref o3, .ref o4, .ref o5, .ref o6, .ref o7, .ref o8, .ref o9, .ref o10, .int 0, .int 0, .null, .int 0, .int 45, .ref t1, .ref t2, .ref t3, .ref t4, .ref t5])), (lr, .inr (14, [.int 0, .ref tE, .int 0])), (ld, .inr (14, [.int 0, .ref tE, .int 0]))] sz)) 0 0 (va_A [(m0, .inr (12, [.int th, .ref lr, .ref ld, .ref o1, .int (-1), .int (-1), .int 0, .ref o2, .ref o3, .ref o4, .ref o5, .ref o6, .ref o7, .ref o8, .ref o9, .ref o10, .int 0, .int 0, .null, .int 0, .int 45, .ref t1, .ref t2, .ref t3, .ref t4, .ref t5])), (lr, .inr (14, [.int 0, .ref tE, .int 0])), (ld, .inr (14, [.int 0, .ref tE, .int 0]))] sz) := by
  refine Met.ofW (cc := cX12_liars) (maxL := 9) (ret := (some .int)) (by decide) rfl ?_
  intro p e s m args below meth c s₁ B hml hv
  obtain ⟨rfl, hsz, hP, hK, hD0, ham⟩ := hv
  have hx := B.exec
  have hb := B.bytes
  have hr := B.returns
  have hts := atoms_spec B.pre
  have hq : ∀ w ∈ tw, w.before _ s = true := fun w h => hts w (List.mem_cons_of_mem _ h)
  have hown : s.vm.findClass RX12 = some m.cls := findClass_of_methodNamed B.named
  have hlocks := B.notSynchronized
  subst hsz
  have hD := hD0.self (sz := s.heap.size)
  generalize hAe : va_A [(m0, .inr (12, [.int th, .ref lr, .ref ld, .ref o1, .int (-1), .int (-1), .int 0, .ref o2, .ref o3, .ref o4, .ref o5, .ref o6, .ref o7, .ref o8, .ref o9, .ref o10, .int 0, .int 0, .null, .int 0, .int 45, .ref t1, .ref t2, .ref t3, .ref t4, .ref t5])), (lr, .inr (14, [.int 0, .ref tE, .int 0])), (ld, .inr (14, [.int 0, .ref tE, .int 0]))] s.heap.size = A at hD ham ⊢
  have hA : ∀ q : Nat, s.heap.size ≤ q → A q := fun q h => by rw [← hAe]; exact Or.inr h
  have hS : va_S A s.heap s.heap [] := va_S.rf
  have hP : va_P (dC, dI) cls [(m0, .inr (12, [.int th, .ref lr, .ref ld, .ref o1, .int (-1), .int (-1), .int 0, .ref o2, .ref o3, .ref o4, .ref o5, .ref o6, .ref o7, .ref o8, .ref o9, .ref o10, .int 0, .int 0, .null, .int 0, .int 45, .ref t1, .ref t2, .ref t3, .ref t4, .ref t5])), (lr, .inr (14, [.int 0, .ref tE, .int 0])), (ld, .inr (14, [.int 0, .ref tE, .int 0]))] s.heap := hP
  have hl := lv_entry ([.ref m0, .int p1]) (n := 9) (Nat.le_of_ble_eq_true rfl)
  rw [lg_entry_eq]
  generalize (lg_sl ([.ref m0, .int p1]) ++ List.replicate (9 - (lg_sl ([.ref m0, .int p1])).length) Slot.unset).toArray = ls at hl ⊢
  have hl : lv_has ls 9 [(0, .ref m0), (1, .int p1)] := hl
  refine lv_aload_n hx hb dX12_liars_0 rfl (lv_at hl 0 rfl) ?_
  refine lv_iload_n hx hb dX12_liars_1 rfl (lv_at hl 1 rfl) ?_
  have hPc := hP.sub (ws' := [(m0, .inr (12, [.int th, .ref lr, .ref ld, .ref o1, .int (-1), .int (-1), .int 0, .ref o2, .ref o3, .ref o4, .ref o5, .ref o6, .ref o7, .ref o8, .ref o9, .ref o10, .int 0, .int 0, .null, .int 0, .int 45, .ref t1, .ref t2, .ref t3, .ref t4, .ref t5])), (lr, .inr (14, [.int 0, .ref tE, .int 0])), (ld, .inr (14, [.int 0, .ref tE, .int 0]))]) [0, 1, 2] rfl
  have hKc := hK.sub (tys' := []) [] rfl
  have hDc := hD.sub (ws' := [(m0, .inr (12, [.int th, .ref lr, .ref ld, .ref o1, .int (-1), .int (-1), .int 0, .ref o2, .ref o3, .ref o4, .ref o5, .ref o6, .ref o7, .ref o8, .ref o9, .ref o10, .int 0, .int 0, .null, .int 0, .int 45, .ref t1, .ref t2, .ref t3, .ref t4, .ref t5])), (lr, .inr (14, [.int 0, .ref tE, .int 0])), (ld, .inr (14, [.int 0, .ref tE, .int 0]))]) [0, 1, 2] (by decide) rfl
  have hFc := va_free (wc := [(m0, .inr (12, [.int th, .ref lr, .ref ld, .ref o1, .int (-1), .int (-1), .int 0, .ref o2, .ref o3, .ref o4, .ref o5, .ref o6, .ref o7, .ref o8, .ref o9, .ref o10, .int 0, .int 0, .null, .int 0, .int 45, .ref t1, .ref t2, .ref t3, .ref t4, .ref t5])), (lr, .inr (14, [.int 0, .ref tE, .int 0])), (ld, .inr (14, [.int 0, .ref tE, .int 0]))]) hD hS hA [0, 1, 2] rfl
  refine va_calli (va_runV (As := [.int p1]) (rest := []) ⟨hx, hb, hml, hown, hq⟩ (c_M_isNobody l hst tE adK adV dC dI m0 lr ld o1 o2 o3 o4 o5 o6 o7 o8 o9 o10 t1 t2 t3 t4 t5 th p1 s.heap.size) (tcV 1 hq q_1837 q_12 q_1834 q_1836 qp_39 rfl rfl (by decide +kernel) ⟨Nat.le_of_ble_eq_true rfl, Nat.le_of_ble_eq_true rfl⟩) (pre.V (va_recv hK hP (ci := 12) (q0 := 0) rfl rfl) (pre.of hPc hDc hKc ham hS hFc)) rfl rfl hl.1 rfl (lv_room (Nat.le_of_ble_eq_true rfl)) dX12_liars_2 ⟨Nat.le_of_ble_eq_true rfl, Nat.le_of_ble_eq_true rfl⟩) hS (fun q _ h => hFc q h) hFc (fun r_1 u t H1 locs ht hvm hw hB hz1 hk1 hS => ?_)
  obtain ⟨hP1, hK1, hD1⟩ := hB
  rw [ht] at hP1
  have hK1 := va_K.moved hvm.symm hK1
  obtain ⟨hP, hD⟩ := va_join (wr := []) (w1 := [(m0, .inr (12, [.int 1, .ref lr, .ref ld, .ref o1, .int (-1), .int (-1), .int 0, .ref o2, .ref o3, .ref o4, .ref o5, .ref o6, .ref o7, .ref o8, .ref o9, .ref o10, .int 0, .int 0, .null, .int 0, .int 45, .ref t1, .ref t2, .ref t3, .ref t4, .ref t5]))]) (wc := [(m0, .inr (12, [.int th, .ref lr, .ref ld, .ref o1, .int (-1), .int (-1), .int 0, .ref o2, .ref o3, .ref o4, .ref o5, .ref o6, .ref o7, .ref o8, .ref o9, .ref o10, .int 0, .int 0, .null, .int 0, .int 45, .ref t1, .ref t2, .ref t3, .ref t4, .ref t5])), (lr, .inr (14, [.int 0, .ref tE, .int 0])), (ld, .inr (14, [.int 0, .ref tE, .int 0]))]) hP hD [0, 1, 2] [] rfl rfl (by decide) (by decide) hk1 hFc hP1 hD1
  have hK := (hK.sub (tys' := []) [] rfl).app hK1
  generalize H1 = H at hP hS ⊢
  have hP : va_P (dC, dI) cls [(m0, .inr (12, [.int 1, .ref lr, .ref ld, .ref o1, .int (-1), .int (-1), .int 0, .ref o2, .ref o3, .ref o4, .ref o5, .ref o6, .ref o7, .ref o8, .ref o9, .ref o10, .int 0, .int 0, .null, .int 0, .int 45, .ref t1, .ref t2, .ref t3, .ref t4, .ref t5]))] H := hP
  have hD : va_D A [(m0, .inr (12, [.int 1, .ref lr, .ref ld, .ref o1, .int (-1), .int (-1), .int 0, .ref o2, .ref o3, .ref o4, .ref o5, .ref o6, .ref o7, .ref o8, .ref o9, .ref o10, .int 0, .int 0, .null, .int 0, .int 45, .ref t1, .ref t2, .ref t3, .ref t4, .ref t5]))] := hD
  have hK : va_K (dC, dI) cls [] s := hK
  refine W.widen (k := 0) (n := 0) (Nat.le_of_ble_eq_true rfl) (Nat.le_of_ble_eq_true rfl) ?_
  have hw : r_1 = 1 := hw
  subst hw
  refine lv_if_eq (tgt := 10) hx hb dX12_liars_5 (by decide) (fun c_2 => ?_) (fun c_2 => ?_)
  · exact absurd c_2 (by decide)
  · refine lv_iconst (v := 0) hx hb dX12_liars_8 (by decide) ?_
    refine W.widen (k := 0) (n := 0) (Nat.le_of_ble_eq_true rfl) (Nat.le_of_ble_eq_true rfl) ?_
    have hP9 := hP.sub (ws' := [(m0, .inr (12, [.int 1, .ref lr, .ref ld, .ref o1, .int (-1), .int (-1), .int 0, .ref o2, .ref o3, .ref o4, .ref o5, .ref o6, .ref o7, .ref o8, .ref o9, .ref o10, .int 0, .int 0, .null, .int 0, .int 45, .ref t1, .ref t2, .ref t3, .ref t4, .ref t5]))]) [0] rfl
    have hD9 := hD.sub (ws' := [(m0, .inr (12, [.int 1, .ref lr, .ref ld, .ref o1, .int (-1), .int (-1), .int 0, .ref o2, .ref o3, .ref o4, .ref o5, .ref o6, .ref o7, .ref o8, .ref o9, .ref o10, .int 0, .int 0, .null, .int 0, .int 45, .ref t1, .ref t2, .ref t3, .ref t4, .ref t5]))]) [0] (by decide) rfl
    have hK9 := hK.sub (tys' := []) [] rfl
    exact W.iret (v := 0) hx hb hr (fun t ht hW => ⟨⟨0, (), rfl, trivial, ⟨by rw [ht]; exact hP9, va_K.moved hW.alike hK9, hD9⟩⟩, hS.F ht⟩) hS.2.2 dX12_liars_9
abbrev cX12_changed : ByteArray := prog_13_method_60_code
def yX12_changed : MethodName := ⟨RX12, "changed", "(II)C"⟩
theorem dX12_changed_0 : decode cX12_changed 0 = .ok (.aload_n 0, 1) := by decide +kernel
theorem dX12_changed_1 : decode cX12_changed 1 = .ok (.iload_n 1, 1) := by decide +kernel
theorem dX12_changed_2 : decode cX12_changed 2 = .ok (.iload_n 2, 1) := by decide +kernel
theorem dX12_changed_3 : decode cX12_changed 3 = .ok (.invokevirtual 306, 3) := by decide +kernel
theorem q_1930 : (Cond.code yX12_isNoChange cX12_isNoChange 3 (some .boolean)) ∈ tw := tw_in (i := 1930) (by decide +kernel) (by decide +kernel)
theorem q_1927 : (Cond.methodLink "NightfallVillageModel" 306 yX12_isNoChange) ∈ tw := tw_in (i := 1927) (by decide +kernel) (by decide +kernel)
theorem q_1929 : (Cond.instanceMethod yX12_isNoChange) ∈ tw := tw_in (i := 1929) (by decide +kernel) (by decide +kernel)
theorem qp_46 : (Cond.selects yX12_isNoChange.cls yX12_isNoChange yX12_isNoChange) ∈ tw := tw_inP (i := 46) (by decide +kernel) (by decide +kernel)
theorem dX12_changed_6 : decode cX12_changed 6 = .ok (.ifCond .eq 7, 3) := by decide +kernel
theorem dX12_changed_9 : decode cX12_changed 9 = .ok (.iconst 0, 1) := by decide +kernel
theorem dX12_changed_10 : decode cX12_changed 10 = .ok (.goto 12, 3) := by decide +kernel
theorem dX12_changed_22 : decode cX12_changed 22 = .ok (.ireturn, 1) := by decide +kernel
set_option maxHeartbeats 4000000 in
set_option maxRecDepth 100000 in
theorem c_M_changed (l : Launch) (hst : l.stackTraces = false) (tE : Nat) (adK adV : Nat → Nat) (dC : Nat → ClassId) (dI : Nat → Nat → Nat) (m0 : Nat) (lr : Nat) (ld : Nat) (o1 : Nat) (o2 : Nat) (o3 : Nat) (o4 : Nat) (o5 : Nat) (o6 : Nat) (o7 : Nat) (o8 : Nat) (o9 : Nat) (o10 : Nat) (t1 : Nat) (t2 : Nat) (t3 : Nat) (t4 : Nat) (t5 : Nat) (th : Int32) (p1 : Int32) (p2 : Int32) (sz : Nat) : Met l yX12_changed (Cond.code yX12_changed cX12_changed 3 (some .char) :: tw) ({ frames := 4, cells := 0, slots := 0, locals := 85 }) (va_Pc [.ref m0, .int p1, .int p2] (pre tE adK adV (dC, dI) [(m0, .inr (12, [.int th, .ref lr, .ref ld, .ref o1, .int (-1), .int (-1), .int 0, .ref o2, .ref o3, .ref o4, .ref o5, .ref o6, .ref o7, .ref o8, .ref o9, .ref o10, .int 0, .int 0, .null, .int 0, .int 45, .ref t1, .ref t2, .ref t3, .ref t4, .ref t5])), (lr, .inr (14, [.int 0, .ref tE, .int 0])), (ld, .inr (14, [.int 0, .ref tE, .int 0]))] [] sz)) (va_Qi (fun (r : Int32) (_ : Unit) => True) (fun (_ : Unit) (t : State) => va_P (dC, dI) cls [(m0, .inr (12, [.int 1, .ref lr, .ref ld, .ref o1, .int (-1), .int (-1), .int 0, .ref o2, .ref o3, .ref o4, .ref o5, .ref o6, .ref o7, .ref o8, .ref o9, .ref o10, .int 0, .int 0, .null, .int 0, .int 45, .ref t1, .ref t2, .ref t3, .ref t4, .ref t5]))] t.heap ∧ va_K (dC, dI) cls [] t ∧ va_D (va_A [(m0, .inr (12, [.int th, .ref lr, .ref ld, .ref o1, .int (-1), .int (-1), .int 0, .ref o2, .ref o3, .ref o4, .ref o5, .ref o6, .ref o7, .ref o8, .ref o9, .ref o10, .int 0, .int 0, .null, .int 0, .int 45, .ref t1, .ref t2, .ref t3, .ref t4, .ref t5])), (lr, .inr (14, [.int 0, .ref tE, .int 0])), (ld, .inr (14, [.int 0, .ref tE, .int 0]))] sz) [(m0, .inr (12, [.int 1, .ref lr, .ref ld, .ref o1, .int (-1), .int (-1), .int 0, .ref o2, .ref o3, .ref o4, .ref o5, .ref o6, .ref o7, .ref o8, .ref o9, .ref o10, .int 0, .int 0, .null, .int 0, .int 45, .ref t1, .ref t2, .ref t3, .ref t4, .ref t5]))]) (va_A [(m0, .inr (12, [.int th, .ref lr, .ref ld, .ref o1, .int (-1), .int (-1), .int 0, .ref o2, .ref o3, .ref o4, .ref o5, .ref o6, .ref o7, .ref o8, .ref o9, .ref o10, .int 0, .int 0, .null, .int 0, .int 45, .ref t1, .ref t2, .ref t3, .ref t4, .ref t5])), (lr, .inr (14, [.int 0, .ref tE, .int 0])), (ld, .inr (14, [.int 0, .ref tE, .int 0]))] sz)) 0 0 (va_A [(m0, .inr (12, [.int th, .ref lr, .ref ld, .ref o1, .int (-1), .int (-1), .int 0, .ref o2, .ref o3, .ref o4, .ref o5, .ref o6, .ref o7, .ref o8, .ref o9, .ref o10, .int 0, .int 0, .null, .int 0, .int 45, .ref t1, .ref t2, .ref t3, .ref t4, .ref t5])), (lr, .inr (14, [.int 0, .ref tE, .int 0])), (ld, .inr (14, [.int 0, .ref tE, .int 0]))] sz) := by
  refine Met.ofW (cc := cX12_changed) (maxL := 3) (ret := (some .char)) (by decide) rfl ?_
  intro p e s m args below meth c s₁ B hml hv
  obtain ⟨rfl, hsz, hP, hK, hD0, ham⟩ := hv
  have hx := B.exec
  have hb := B.bytes
  have hr := B.returns
  have hts := atoms_spec B.pre
  have hq : ∀ w ∈ tw, w.before _ s = true := fun w h => hts w (List.mem_cons_of_mem _ h)
  have hown : s.vm.findClass RX12 = some m.cls := findClass_of_methodNamed B.named
  have hlocks := B.notSynchronized
  subst hsz
  have hD := hD0.self (sz := s.heap.size)
  generalize hAe : va_A [(m0, .inr (12, [.int th, .ref lr, .ref ld, .ref o1, .int (-1), .int (-1), .int 0, .ref o2, .ref o3, .ref o4, .ref o5, .ref o6, .ref o7, .ref o8, .ref o9, .ref o10, .int 0, .int 0, .null, .int 0, .int 45, .ref t1, .ref t2, .ref t3, .ref t4, .ref t5])), (lr, .inr (14, [.int 0, .ref tE, .int 0])), (ld, .inr (14, [.int 0, .ref tE, .int 0]))] s.heap.size = A at hD ham ⊢
  have hA : ∀ q : Nat, s.heap.size ≤ q → A q := fun q h => by rw [← hAe]; exact Or.inr h
  have hS : va_S A s.heap s.heap [] := va_S.rf
  have hP : va_P (dC, dI) cls [(m0, .inr (12, [.int th, .ref lr, .ref ld, .ref o1, .int (-1), .int (-1), .int 0, .ref o2, .ref o3, .ref o4, .ref o5, .ref o6, .ref o7, .ref o8, .ref o9, .ref o10, .int 0, .int 0, .null, .int 0, .int 45, .ref t1, .ref t2, .ref t3, .ref t4, .ref t5])), (lr, .inr (14, [.int 0, .ref tE, .int 0])), (ld, .inr (14, [.int 0, .ref tE, .int 0]))] s.heap := hP
  have hl := lv_entry ([.ref m0, .int p1, .int p2]) (n := 3) (Nat.le_of_ble_eq_true rfl)
  rw [lg_entry_eq]
  generalize (lg_sl ([.ref m0, .int p1, .int p2]) ++ List.replicate (3 - (lg_sl ([.ref m0, .int p1, .int p2])).length) Slot.unset).toArray = ls at hl ⊢
  have hl : lv_has ls 3 [(0, .ref m0), (1, .int p1), (2, .int p2)] := hl
  refine lv_aload_n hx hb dX12_changed_0 rfl (lv_at hl 0 rfl) ?_
  refine lv_iload_n hx hb dX12_changed_1 rfl (lv_at hl 1 rfl) ?_
  refine lv_iload_n hx hb dX12_changed_2 rfl (lv_at hl 2 rfl) ?_
  have hPc := hP.sub (ws' := [(m0, .inr (12, [.int th, .ref lr, .ref ld, .ref o1, .int (-1), .int (-1), .int 0, .ref o2, .ref o3, .ref o4, .ref o5, .ref o6, .ref o7, .ref o8, .ref o9, .ref o10, .int 0, .int 0, .null, .int 0, .int 45, .ref t1, .ref t2, .ref t3, .ref t4, .ref t5])), (lr, .inr (14, [.int 0, .ref tE, .int 0])), (ld, .inr (14, [.int 0, .ref tE, .int 0]))]) [0, 1, 2] rfl
  have hKc := hK.sub (tys' := []) [] rfl
  have hDc := hD.sub (ws' := [(m0, .inr (12, [.int th, .ref lr, .ref ld, .ref o1, .int (-1), .int (-1), .int 0, .ref o2, .ref o3, .ref o4, .ref o5, .ref o6, .ref o7, .ref o8, .ref o9, .ref o10, .int 0, .int 0, .null, .int 0, .int 45, .ref t1, .ref t2, .ref t3, .ref t4, .ref t5])), (lr, .inr (14, [.int 0, .ref tE, .int 0])), (ld, .inr (14, [.int 0, .ref tE, .int 0]))]) [0, 1, 2] (by decide) rfl
  have hFc := va_free (wc := [(m0, .inr (12, [.int th, .ref lr, .ref ld, .ref o1, .int (-1), .int (-1), .int 0, .ref o2, .ref o3, .ref o4, .ref o5, .ref o6, .ref o7, .ref o8, .ref o9, .ref o10, .int 0, .int 0, .null, .int 0, .int 45, .ref t1, .ref t2, .ref t3, .ref t4, .ref t5])), (lr, .inr (14, [.int 0, .ref tE, .int 0])), (ld, .inr (14, [.int 0, .ref tE, .int 0]))]) hD hS hA [0, 1, 2] rfl
  refine va_calli (va_runV (As := [.int p1, .int p2]) (rest := []) ⟨hx, hb, hml, hown, hq⟩ (c_M_isNoChange l hst tE adK adV dC dI m0 lr ld o1 o2 o3 o4 o5 o6 o7 o8 o9 o10 t1 t2 t3 t4 t5 th p1 p2 s.heap.size) (tcV 2 hq q_1930 q_12 q_1927 q_1929 qp_46 rfl rfl (by decide +kernel) ⟨Nat.le_of_ble_eq_true rfl, Nat.le_of_ble_eq_true rfl⟩) (pre.V (va_recv hK hP (ci := 12) (q0 := 0) rfl rfl) (pre.of hPc hDc hKc ham hS hFc)) rfl rfl hl.1 rfl (lv_room (Nat.le_of_ble_eq_true rfl)) dX12_changed_3 ⟨Nat.le_of_ble_eq_true rfl, Nat.le_of_ble_eq_true rfl⟩) hS (fun q _ h => hFc q h) hFc (fun r_1 u t H1 locs ht hvm hw hB hz1 hk1 hS => ?_)
  obtain ⟨hP1, hK1, hD1⟩ := hB
  rw [ht] at hP1
  have hK1 := va_K.moved hvm.symm hK1
  obtain ⟨hP, hD⟩ := va_join (wr := []) (w1 := [(m0, .inr (12, [.int 1, .ref lr, .ref ld, .ref o1, .int (-1), .int (-1), .int 0, .ref o2, .ref o3, .ref o4, .ref o5, .ref o6, .ref o7, .ref o8, .ref o9, .ref o10, .int 0, .int 0, .null, .int 0, .int 45, .ref t1, .ref t2, .ref t3, .ref t4, .ref t5]))]) (wc := [(m0, .inr (12, [.int th, .ref lr, .ref ld, .ref o1, .int (-1), .int (-1), .int 0, .ref o2, .ref o3, .ref o4, .ref o5, .ref o6, .ref o7, .ref o8, .ref o9, .ref o10, .int 0, .int 0, .null, .int 0, .int 45, .ref t1, .ref t2, .ref t3, .ref t4, .ref t5])), (lr, .inr (14, [.int 0, .ref tE, .int 0])), (ld, .inr (14, [.int 0, .ref tE, .int 0]))]) hP hD [0, 1, 2] [] rfl rfl (by decide) (by decide) hk1 hFc hP1 hD1
  have hK := (hK.sub (tys' := []) [] rfl).app hK1
  generalize H1 = H at hP hS ⊢
  have hP : va_P (dC, dI) cls [(m0, .inr (12, [.int 1, .ref lr, .ref ld, .ref o1, .int (-1), .int (-1), .int 0, .ref o2, .ref o3, .ref o4, .ref o5, .ref o6, .ref o7, .ref o8, .ref o9, .ref o10, .int 0, .int 0, .null, .int 0, .int 45, .ref t1, .ref t2, .ref t3, .ref t4, .ref t5]))] H := hP
  have hD : va_D A [(m0, .inr (12, [.int 1, .ref lr, .ref ld, .ref o1, .int (-1), .int (-1), .int 0, .ref o2, .ref o3, .ref o4, .ref o5, .ref o6, .ref o7, .ref o8, .ref o9, .ref o10, .int 0, .int 0, .null, .int 0, .int 45, .ref t1, .ref t2, .ref t3, .ref t4, .ref t5]))] := hD
  have hK : va_K (dC, dI) cls [] s := hK
  refine W.widen (k := 0) (n := 0) (Nat.le_of_ble_eq_true rfl) (Nat.le_of_ble_eq_true rfl) ?_
  have hw : r_1 = 1 := hw
  subst hw
  refine lv_if_eq (tgt := 13) hx hb dX12_changed_6 (by decide) (fun c_2 => ?_) (fun c_2 => ?_)
  · exact absurd c_2 (by decide)
  · refine lv_iconst (v := 0) hx hb dX12_changed_9 (by decide) ?_
    refine lv_goto (tgt := 22) hx hb dX12_changed_10 (by decide) ?_
    refine W.widen (k := 0) (n := 0) (Nat.le_of_ble_eq_true rfl) (Nat.le_of_ble_eq_true rfl) ?_
    have hP9 := hP.sub (ws' := [(m0, .inr (12, [.int 1, .ref lr, .ref ld, .ref o1, .int (-1), .int (-1), .int 0, .ref o2, .ref o3, .ref o4, .ref o5, .ref o6, .ref o7, .ref o8, .ref o9, .ref o10, .int 0, .int 0, .null, .int 0, .int 45, .ref t1, .ref t2, .ref t3, .ref t4, .ref t5]))]) [0] rfl
    have hD9 := hD.sub (ws' := [(m0, .inr (12, [.int 1, .ref lr, .ref ld, .ref o1, .int (-1), .int (-1), .int 0, .ref o2, .ref o3, .ref o4, .ref o5, .ref o6, .ref o7, .ref o8, .ref o9, .ref o10, .int 0, .int 0, .null, .int 0, .int 45, .ref t1, .ref t2, .ref t3, .ref t4, .ref t5]))]) [0] (by decide) rfl
    have hK9 := hK.sub (tys' := []) [] rfl
    exact W.zret (v := 0) hx hb hr (by decide) (fun t ht hW => ⟨⟨0, (), rfl, trivial, ⟨by rw [ht]; exact hP9, va_K.moved hW.alike hK9, hD9⟩⟩, hS.F ht⟩) hS.2.2 dX12_changed_22
abbrev cX12_alive : ByteArray := prog_13_method_61_code
def yX12_alive : MethodName := ⟨RX12, "alive", "(II)I"⟩
theorem dX12_alive_0 : decode cX12_alive 0 = .ok (.aload_n 0, 1) := by decide +kernel
theorem dX12_alive_1 : decode cX12_alive 1 = .ok (.iload_n 1, 1) := by decide +kernel
theorem dX12_alive_2 : decode cX12_alive 2 = .ok (.iload_n 2, 1) := by decide +kernel
theorem dX12_alive_3 : decode cX12_alive 3 = .ok (.invokevirtual 306, 3) := by decide +kernel
theorem dX12_alive_6 : decode cX12_alive 6 = .ok (.ifCond .eq 5, 3) := by decide +kernel
theorem dX12_alive_9 : decode cX12_alive 9 = .ok (.iconst 0, 1) := by decide +kernel
theorem dX12_alive_10 : decode cX12_alive 10 = .ok (.ireturn, 1) := by decide +kernel
set_option maxHeartbeats 4000000 in
set_option maxRecDepth 100000 in
theorem c_M_alive (l : Launch) (hst : l.stackTraces = false) (tE : Nat) (adK adV : Nat → Nat) (dC : Nat → ClassId) (dI : Nat → Nat → Nat) (m0 : Nat) (lr : Nat) (ld : Nat) (o1 : Nat) (o2 : Nat) (o3 : Nat) (o4 : Nat) (o5 : Nat) (o6 : Nat) (o7 : Nat) (o8 : Nat) (o9 : Nat) (o10 : Nat) (t1 : Nat) (t2 : Nat) (t3 : Nat) (t4 : Nat) (t5 : Nat) (th : Int32) (p1 : Int32) (p2 : Int32) (sz : Nat) : Met l yX12_alive (Cond.code yX12_alive cX12_alive 6 (some .int) :: tw) ({ frames := 4, cells := 0, slots := 0, locals := 85 }) (va_Pc [.ref m0, .int p1, .int p2] (pre tE adK adV (dC, dI) [(m0, .inr (12, [.int th, .ref lr, .ref ld, .ref o1, .int (-1), .int (-1), .int 0, .ref o2, .ref o3, .ref o4, .ref o5, .ref o6, .ref o7, .ref o8, .ref o9, .ref o10, .int 0, .int 0, .null, .int 0, .int 45, .ref t1, .ref t2, .ref t3, .ref t4, .ref t5])), (lr, .inr (14, [.int 0, .ref tE, .int 0])), (ld, .inr (14, [.int 0, .ref tE, .int 0]))] [] sz)) (va_Qi (fun (r : Int32) (_ : Unit) => True) (fun (_ : Unit) (t : State) => va_P (dC, dI) cls [(m0, .inr (12, [.int 1, .ref lr, .ref ld, .ref o1, .int (-1), .int (-1), .int 0, .ref o2, .ref o3, .ref o4, .ref o5, .ref o6, .ref o7, .ref o8, .ref o9, .ref o10, .int 0, .int 0, .null, .int 0, .int 45, .ref t1, .ref t2, .ref t3, .ref t4, .ref t5]))] t.heap ∧ va_K (dC, dI) cls [] t ∧ va_D (va_A [(m0, .inr (12, [.int th, .ref lr, .ref ld, .ref o1, .int (-1), .int (-1), .int 0, .ref o2, .ref o3, .ref o4, .ref o5, .ref o6, .ref o7, .ref o8, .ref o9, .ref o10, .int 0, .int 0, .null, .int 0, .int 45, .ref t1, .ref t2, .ref t3, .ref t4, .ref t5])), (lr, .inr (14, [.int 0, .ref tE, .int 0])), (ld, .inr (14, [.int 0, .ref tE, .int 0]))] sz) [(m0, .inr (12, [.int 1, .ref lr, .ref ld, .ref o1, .int (-1), .int (-1), .int 0, .ref o2, .ref o3, .ref o4, .ref o5, .ref o6, .ref o7, .ref o8, .ref o9, .ref o10, .int 0, .int 0, .null, .int 0, .int 45, .ref t1, .ref t2, .ref t3, .ref t4, .ref t5]))]) (va_A [(m0, .inr (12, [.int th, .ref lr, .ref ld, .ref o1, .int (-1), .int (-1), .int 0, .ref o2, .ref o3, .ref o4, .ref o5, .ref o6, .ref o7, .ref o8, .ref o9, .ref o10, .int 0, .int 0, .null, .int 0, .int 45, .ref t1, .ref t2, .ref t3, .ref t4, .ref t5])), (lr, .inr (14, [.int 0, .ref tE, .int 0])), (ld, .inr (14, [.int 0, .ref tE, .int 0]))] sz)) 0 0 (va_A [(m0, .inr (12, [.int th, .ref lr, .ref ld, .ref o1, .int (-1), .int (-1), .int 0, .ref o2, .ref o3, .ref o4, .ref o5, .ref o6, .ref o7, .ref o8, .ref o9, .ref o10, .int 0, .int 0, .null, .int 0, .int 45, .ref t1, .ref t2, .ref t3, .ref t4, .ref t5])), (lr, .inr (14, [.int 0, .ref tE, .int 0])), (ld, .inr (14, [.int 0, .ref tE, .int 0]))] sz) := by
  refine Met.ofW (cc := cX12_alive) (maxL := 6) (ret := (some .int)) (by decide) rfl ?_
  intro p e s m args below meth c s₁ B hml hv
  obtain ⟨rfl, hsz, hP, hK, hD0, ham⟩ := hv
  have hx := B.exec
  have hb := B.bytes
  have hr := B.returns
  have hts := atoms_spec B.pre
  have hq : ∀ w ∈ tw, w.before _ s = true := fun w h => hts w (List.mem_cons_of_mem _ h)
  have hown : s.vm.findClass RX12 = some m.cls := findClass_of_methodNamed B.named
  have hlocks := B.notSynchronized
  subst hsz
  have hD := hD0.self (sz := s.heap.size)
  generalize hAe : va_A [(m0, .inr (12, [.int th, .ref lr, .ref ld, .ref o1, .int (-1), .int (-1), .int 0, .ref o2, .ref o3, .ref o4, .ref o5, .ref o6, .ref o7, .ref o8, .ref o9, .ref o10, .int 0, .int 0, .null, .int 0, .int 45, .ref t1, .ref t2, .ref t3, .ref t4, .ref t5])), (lr, .inr (14, [.int 0, .ref tE, .int 0])), (ld, .inr (14, [.int 0, .ref tE, .int 0]))] s.heap.size = A at hD ham ⊢
  have hA : ∀ q : Nat, s.heap.size ≤ q → A q := fun q h => by rw [← hAe]; exact Or.inr h
  have hS : va_S A s.heap s.heap [] := va_S.rf
  have hP : va_P (dC, dI) cls [(m0, .inr (12, [.int th, .ref lr, .ref ld, .ref o1, .int (-1), .int (-1), .int 0, .ref o2, .ref o3, .ref o4, .ref o5, .ref o6, .ref o7, .ref o8, .ref o9, .ref o10, .int 0, .int 0, .null, .int 0, .int 45, .ref t1, .ref t2, .ref t3, .ref t4, .ref t5])), (lr, .inr (14, [.int 0, .ref tE, .int 0])), (ld, .inr (14, [.int 0, .ref tE, .int 0]))] s.heap := hP
  have hl := lv_entry ([.ref m0, .int p1, .int p2]) (n := 6) (Nat.le_of_ble_eq_true rfl)
  rw [lg_entry_eq]
  generalize (lg_sl ([.ref m0, .int p1, .int p2]) ++ List.replicate (6 - (lg_sl ([.ref m0, .int p1, .int p2])).length) Slot.unset).toArray = ls at hl ⊢
  have hl : lv_has ls 6 [(0, .ref m0), (1, .int p1), (2, .int p2)] := hl
  refine lv_aload_n hx hb dX12_alive_0 rfl (lv_at hl 0 rfl) ?_
  refine lv_iload_n hx hb dX12_alive_1 rfl (lv_at hl 1 rfl) ?_
  refine lv_iload_n hx hb dX12_alive_2 rfl (lv_at hl 2 rfl) ?_
  have hPc := hP.sub (ws' := [(m0, .inr (12, [.int th, .ref lr, .ref ld, .ref o1, .int (-1), .int (-1), .int 0, .ref o2, .ref o3, .ref o4, .ref o5, .ref o6, .ref o7, .ref o8, .ref o9, .ref o10, .int 0, .int 0, .null, .int 0, .int 45, .ref t1, .ref t2, .ref t3, .ref t4, .ref t5])), (lr, .inr (14, [.int 0, .ref tE, .int 0])), (ld, .inr (14, [.int 0, .ref tE, .int 0]))]) [0, 1, 2] rfl
  have hKc := hK.sub (tys' := []) [] rfl
  have hDc := hD.sub (ws' := [(m0, .inr (12, [.int th, .ref lr, .ref ld, .ref o1, .int (-1), .int (-1), .int 0, .ref o2, .ref o3, .ref o4, .ref o5, .ref o6, .ref o7, .ref o8, .ref o9, .ref o10, .int 0, .int 0, .null, .int 0, .int 45, .ref t1, .ref t2, .ref t3, .ref t4, .ref t5])), (lr, .inr (14, [.int 0, .ref tE, .int 0])), (ld, .inr (14, [.int 0, .ref tE, .int 0]))]) [0, 1, 2] (by decide) rfl
  have hFc := va_free (wc := [(m0, .inr (12, [.int th, .ref lr, .ref ld, .ref o1, .int (-1), .int (-1), .int 0, .ref o2, .ref o3, .ref o4, .ref o5, .ref o6, .ref o7, .ref o8, .ref o9, .ref o10, .int 0, .int 0, .null, .int 0, .int 45, .ref t1, .ref t2, .ref t3, .ref t4, .ref t5])), (lr, .inr (14, [.int 0, .ref tE, .int 0])), (ld, .inr (14, [.int 0, .ref tE, .int 0]))]) hD hS hA [0, 1, 2] rfl
  refine va_calli (va_runV (As := [.int p1, .int p2]) (rest := []) ⟨hx, hb, hml, hown, hq⟩ (c_M_isNoChange l hst tE adK adV dC dI m0 lr ld o1 o2 o3 o4 o5 o6 o7 o8 o9 o10 t1 t2 t3 t4 t5 th p1 p2 s.heap.size) (tcV 2 hq q_1930 q_12 q_1927 q_1929 qp_46 rfl rfl (by decide +kernel) ⟨Nat.le_of_ble_eq_true rfl, Nat.le_of_ble_eq_true rfl⟩) (pre.V (va_recv hK hP (ci := 12) (q0 := 0) rfl rfl) (pre.of hPc hDc hKc ham hS hFc)) rfl rfl hl.1 rfl (lv_room (Nat.le_of_ble_eq_true rfl)) dX12_alive_3 ⟨Nat.le_of_ble_eq_true rfl, Nat.le_of_ble_eq_true rfl⟩) hS (fun q _ h => hFc q h) hFc (fun r_1 u t H1 locs ht hvm hw hB hz1 hk1 hS => ?_)
  obtain ⟨hP1, hK1, hD1⟩ := hB
  rw [ht] at hP1
  have hK1 := va_K.moved hvm.symm hK1
  obtain ⟨hP, hD⟩ := va_join (wr := []) (w1 := [(m0, .inr (12, [.int 1, .ref lr, .ref ld, .ref o1, .int (-1), .int (-1), .int 0, .ref o2, .ref o3, .ref o4, .ref o5, .ref o6, .ref o7, .ref o8, .ref o9, .ref o10, .int 0, .int 0, .null, .int 0, .int 45, .ref t1, .ref t2, .ref t3, .ref t4, .ref t5]))]) (wc := [(m0, .inr (12, [.int th, .ref lr, .ref ld, .ref o1, .int (-1), .int (-1), .int 0, .ref o2, .ref o3, .ref o4, .ref o5, .ref o6, .ref o7, .ref o8, .ref o9, .ref o10, .int 0, .int 0, .null, .int 0, .int 45, .ref t1, .ref t2, .ref t3, .ref t4, .ref t5])), (lr, .inr (14, [.int 0, .ref tE, .int 0])), (ld, .inr (14, [.int 0, .ref tE, .int 0]))]) hP hD [0, 1, 2] [] rfl rfl (by decide) (by decide) hk1 hFc hP1 hD1
  have hK := (hK.sub (tys' := []) [] rfl).app hK1
  generalize H1 = H at hP hS ⊢
  have hP : va_P (dC, dI) cls [(m0, .inr (12, [.int 1, .ref lr, .ref ld, .ref o1, .int (-1), .int (-1), .int 0, .ref o2, .ref o3, .ref o4, .ref o5, .ref o6, .ref o7, .ref o8, .ref o9, .ref o10, .int 0, .int 0, .null, .int 0, .int 45, .ref t1, .ref t2, .ref t3, .ref t4, .ref t5]))] H := hP
  have hD : va_D A [(m0, .inr (12, [.int 1, .ref lr, .ref ld, .ref o1, .int (-1), .int (-1), .int 0, .ref o2, .ref o3, .ref o4, .ref o5, .ref o6, .ref o7, .ref o8, .ref o9, .ref o10, .int 0, .int 0, .null, .int 0, .int 45, .ref t1, .ref t2, .ref t3, .ref t4, .ref t5]))] := hD
  have hK : va_K (dC, dI) cls [] s := hK
  refine W.widen (k := 0) (n := 0) (Nat.le_of_ble_eq_true rfl) (Nat.le_of_ble_eq_true rfl) ?_
  have hw : r_1 = 1 := hw
  subst hw
  refine lv_if_eq (tgt := 11) hx hb dX12_alive_6 (by decide) (fun c_2 => ?_) (fun c_2 => ?_)
  · exact absurd c_2 (by decide)
  · refine lv_iconst (v := 0) hx hb dX12_alive_9 (by decide) ?_
    refine W.widen (k := 0) (n := 0) (Nat.le_of_ble_eq_true rfl) (Nat.le_of_ble_eq_true rfl) ?_
    have hP9 := hP.sub (ws' := [(m0, .inr (12, [.int 1, .ref lr, .ref ld, .ref o1, .int (-1), .int (-1), .int 0, .ref o2, .ref o3, .ref o4, .ref o5, .ref o6, .ref o7, .ref o8, .ref o9, .ref o10, .int 0, .int 0, .null, .int 0, .int 45, .ref t1, .ref t2, .ref t3, .ref t4, .ref t5]))]) [0] rfl
    have hD9 := hD.sub (ws' := [(m0, .inr (12, [.int 1, .ref lr, .ref ld, .ref o1, .int (-1), .int (-1), .int 0, .ref o2, .ref o3, .ref o4, .ref o5, .ref o6, .ref o7, .ref o8, .ref o9, .ref o10, .int 0, .int 0, .null, .int 0, .int 45, .ref t1, .ref t2, .ref t3, .ref t4, .ref t5]))]) [0] (by decide) rfl
    have hK9 := hK.sub (tys' := []) [] rfl
    exact W.iret (v := 0) hx hb hr (fun t ht hW => ⟨⟨0, (), rfl, trivial, ⟨by rw [ht]; exact hP9, va_K.moved hW.alike hK9, hD9⟩⟩, hS.F ht⟩) hS.2.2 dX12_alive_10
abbrev cX12_livingShare : ByteArray := prog_13_method_63_code
def yX12_livingShare : MethodName := ⟨RX12, "livingShare", "()F"⟩
theorem dX12_livingShare_0 : decode cX12_livingShare 0 = .ok (.aload_n 0, 1) := by decide +kernel
theorem dX12_livingShare_1 : decode cX12_livingShare 1 = .ok (.aload_n 0, 1) := by decide +kernel
theorem dX12_livingShare_2 : decode cX12_livingShare 2 = .ok (.getfield 26, 3) := by decide +kernel
theorem dX12_livingShare_5 : decode cX12_livingShare 5 = .ok (.invokeinterface 317 1, 5) := by decide +kernel
theorem q_1987 : (Cond.code yJx4a65c_isEmpty_aae02 cJx4a65c_isEmpty_aae02 1 (some .boolean)) ∈ tw := tw_in (i := 1987) (by decide +kernel) (by decide +kernel)
theorem q_1980 : (Cond.methodLink "NightfallVillageModel" 317 ⟨"java/util/List", "isEmpty", "()Z"⟩) ∈ tw := tw_in (i := 1980) (by decide +kernel) (by decide +kernel)
theorem q_1985 : (Cond.instanceMethod yJx4a65c_isEmpty_aae02) ∈ tw := tw_in (i := 1985) (by decide +kernel) (by decide +kernel)
theorem q_1983 : (Cond.selects "java/util/ArrayList" ⟨"java/util/List", "isEmpty", "()Z"⟩ yJx4a65c_isEmpty_aae02) ∈ tw := tw_in (i := 1983) (by decide +kernel) (by decide +kernel)
theorem q_1982 : (Cond.declares ⟨"java/util/List", "isEmpty", "()Z"⟩) ∈ tw := tw_in (i := 1982) (by decide +kernel) (by decide +kernel)
theorem q_1981 : (Cond.interfaceMethod "java/util/List" "java/util/List" "isEmpty" "()Z") ∈ tw := tw_in (i := 1981) (by decide +kernel) (by decide +kernel)
theorem q_1986 : (Cond.publicMethod yJx4a65c_isEmpty_aae02) ∈ tw := tw_in (i := 1986) (by decide +kernel) (by decide +kernel)
theorem q_1984 : (Cond.unhidden "java/util/ArrayList" "isEmpty" "()Z") ∈ tw := tw_in (i := 1984) (by decide +kernel) (by decide +kernel)
theorem dX12_livingShare_10 : decode cX12_livingShare 10 = .ok (.ifCond .eq 7, 3) := by decide +kernel
theorem dX12_livingShare_13 : decode cX12_livingShare 13 = .ok (.iconst 1, 1) := by decide +kernel
theorem dX12_livingShare_14 : decode cX12_livingShare 14 = .ok (.goto 4, 3) := by decide +kernel
theorem dX12_livingShare_18 : decode cX12_livingShare 18 = .ok (.invokevirtual 110, 3) := by decide +kernel
theorem dX12_livingShare_21 : decode cX12_livingShare 21 = .ok (.ifCond .eq 7, 3) := by decide +kernel
theorem dX12_livingShare_24 : decode cX12_livingShare 24 = .ok (.fconst 0, 1) := by decide +kernel
theorem dX12_livingShare_25 : decode cX12_livingShare 25 = .ok (.goto 21, 3) := by decide +kernel
theorem dX12_livingShare_46 : decode cX12_livingShare 46 = .ok (.freturn, 1) := by decide +kernel
set_option maxHeartbeats 4000000 in
set_option maxRecDepth 100000 in
theorem c_M_livingShare (l : Launch) (hst : l.stackTraces = false) (tE : Nat) (adK adV : Nat → Nat) (dC : Nat → ClassId) (dI : Nat → Nat → Nat) (m0 : Nat) (lr : Nat) (ld : Nat) (o1 : Nat) (o2 : Nat) (o3 : Nat) (o4 : Nat) (o5 : Nat) (o6 : Nat) (o7 : Nat) (o8 : Nat) (o9 : Nat) (o10 : Nat) (t1 : Nat) (t2 : Nat) (t3 : Nat) (t4 : Nat) (t5 : Nat) (th : Int32) (sz : Nat) : Met l yX12_livingShare (Cond.code yX12_livingShare cX12_livingShare 1 (some .float) :: tw) ({ frames := 1, cells := 0, slots := 0, locals := 21 }) (va_Pc [.ref m0] (pre tE adK adV (dC, dI) [(m0, .inr (12, [.int th, .ref lr, .ref ld, .ref o1, .int (-1), .int (-1), .int 0, .ref o2, .ref o3, .ref o4, .ref o5, .ref o6, .ref o7, .ref o8, .ref o9, .ref o10, .int 0, .int 0, .null, .int 0, .int 45, .ref t1, .ref t2, .ref t3, .ref t4, .ref t5])), (lr, .inr (14, [.int 0, .ref tE, .int 0])), (ld, .inr (14, [.int 0, .ref tE, .int 0]))] [] sz)) (va_Qf (fun (r : UInt32) (_ : Unit) => True) (fun (_ : Unit) (t : State) => va_P (dC, dI) cls [(m0, .inr (12, [.int 1, .ref lr, .ref ld, .ref o1, .int (-1), .int (-1), .int 0, .ref o2, .ref o3, .ref o4, .ref o5, .ref o6, .ref o7, .ref o8, .ref o9, .ref o10, .int 0, .int 0, .null, .int 0, .int 45, .ref t1, .ref t2, .ref t3, .ref t4, .ref t5]))] t.heap ∧ va_K (dC, dI) cls [] t ∧ va_D (va_A [(m0, .inr (12, [.int th, .ref lr, .ref ld, .ref o1, .int (-1), .int (-1), .int 0, .ref o2, .ref o3, .ref o4, .ref o5, .ref o6, .ref o7, .ref o8, .ref o9, .ref o10, .int 0, .int 0, .null, .int 0, .int 45, .ref t1, .ref t2, .ref t3, .ref t4, .ref t5])), (lr, .inr (14, [.int 0, .ref tE, .int 0])), (ld, .inr (14, [.int 0, .ref tE, .int 0]))] sz) [(m0, .inr (12, [.int 1, .ref lr, .ref ld, .ref o1, .int (-1), .int (-1), .int 0, .ref o2, .ref o3, .ref o4, .ref o5, .ref o6, .ref o7, .ref o8, .ref o9, .ref o10, .int 0, .int 0, .null, .int 0, .int 45, .ref t1, .ref t2, .ref t3, .ref t4, .ref t5]))]) (va_A [(m0, .inr (12, [.int th, .ref lr, .ref ld, .ref o1, .int (-1), .int (-1), .int 0, .ref o2, .ref o3, .ref o4, .ref o5, .ref o6, .ref o7, .ref o8, .ref o9, .ref o10, .int 0, .int 0, .null, .int 0, .int 45, .ref t1, .ref t2, .ref t3, .ref t4, .ref t5])), (lr, .inr (14, [.int 0, .ref tE, .int 0])), (ld, .inr (14, [.int 0, .ref tE, .int 0]))] sz)) 0 0 (va_A [(m0, .inr (12, [.int th, .ref lr, .ref ld, .ref o1, .int (-1), .int (-1), .int 0, .ref o2, .ref o3, .ref o4, .ref o5, .ref o6, .ref o7, .ref o8, .ref o9, .ref o10, .int 0, .int 0, .null, .int 0, .int 45, .ref t1, .ref t2, .ref t3, .ref t4, .ref t5])), (lr, .inr (14, [.int 0, .ref tE, .int 0])), (ld, .inr (14, [.int 0, .ref tE, .int 0]))] sz) := by
  refine Met.ofW (cc := cX12_livingShare) (maxL := 1) (ret := (some .float)) (by decide) rfl ?_
  intro p e s m args below meth c s₁ B hml hv
  obtain ⟨rfl, hsz, hP, hK, hD0, ham⟩ := hv
  have hx := B.exec
  have hb := B.bytes
  have hr := B.returns
  have hts := atoms_spec B.pre
  have hq : ∀ w ∈ tw, w.before _ s = true := fun w h => hts w (List.mem_cons_of_mem _ h)
  have hown : s.vm.findClass RX12 = some m.cls := findClass_of_methodNamed B.named
  have hlocks := B.notSynchronized
  subst hsz
  have hD := hD0.self (sz := s.heap.size)
  generalize hAe : va_A [(m0, .inr (12, [.int th, .ref lr, .ref ld, .ref o1, .int (-1), .int (-1), .int 0, .ref o2, .ref o3, .ref o4, .ref o5, .ref o6, .ref o7, .ref o8, .ref o9, .ref o10, .int 0, .int 0, .null, .int 0, .int 45, .ref t1, .ref t2, .ref t3, .ref t4, .ref t5])), (lr, .inr (14, [.int 0, .ref tE, .int 0])), (ld, .inr (14, [.int 0, .ref tE, .int 0]))] s.heap.size = A at hD ham ⊢
  have hA : ∀ q : Nat, s.heap.size ≤ q → A q := fun q h => by rw [← hAe]; exact Or.inr h
  have hS : va_S A s.heap s.heap [] := va_S.rf
  have hP : va_P (dC, dI) cls [(m0, .inr (12, [.int th, .ref lr, .ref ld, .ref o1, .int (-1), .int (-1), .int 0, .ref o2, .ref o3, .ref o4, .ref o5, .ref o6, .ref o7, .ref o8, .ref o9, .ref o10, .int 0, .int 0, .null, .int 0, .int 45, .ref t1, .ref t2, .ref t3, .ref t4, .ref t5])), (lr, .inr (14, [.int 0, .ref tE, .int 0])), (ld, .inr (14, [.int 0, .ref tE, .int 0]))] s.heap := hP
  have hl := lv_entry ([.ref m0]) (n := 1) (Nat.le_of_ble_eq_true rfl)
  rw [lg_entry_eq]
  generalize (lg_sl ([.ref m0]) ++ List.replicate (1 - (lg_sl ([.ref m0])).length) Slot.unset).toArray = ls at hl ⊢
  have hl : lv_has ls 1 [(0, .ref m0)] := hl
  refine lv_aload_n hx hb dX12_livingShare_0 rfl (lv_at hl 0 rfl) ?_
  refine lv_aload_n hx hb dX12_livingShare_1 rfl (lv_at hl 0 rfl) ?_
  refine va_get (D := (dC, dI)) (ci := 12) (v := .ref ld) (C := RX12) (T := TX12) (N := 26) hx hb hq i_X12 hown hK hP 0 rfl rfl 2 (by decide) (hq _ q_1306) (fun _ h9 => h9) rfl dX12_livingShare_2 ?_
  have hPc := hP.sub (ws' := [(ld, .inr (14, [.int 0, .ref tE, .int 0]))]) [2] rfl
  have hKc := hK.sub (tys' := []) [] rfl
  refine va_callFi (va_runF (hK.1 14 _ rfl).2 (As := []) (rest := [.ref m0]) ⟨hx, hb, hml, hown, hq⟩ (c_isEmpty0 l hst tE adK adV dC dI ld s.heap.size) (tcF 0 hq q_1987 q_15 q_1980 q_1985 q_1983 q_1982 q_1981 q_1986 q_1984 q_1479 rfl rfl (by decide +kernel) ⟨Nat.le_of_ble_eq_true rfl, Nat.le_of_ble_eq_true rfl⟩) (preR.V (va_recv hK hP (ci := 14) (q0 := 2) rfl rfl) (preR.of hPc hKc ham hS hA)) rfl rfl hl.1 rfl (lv_room (Nat.le_of_ble_eq_true rfl)) dX12_livingShare_5 ⟨Nat.le_of_ble_eq_true rfl, Nat.le_of_ble_eq_true rfl⟩) hS (fun q _ h => hA q (Nat.le_trans hS.1 h)) (fun q h => hA q (Nat.le_trans hS.1 h)) (fun r_1 u t H1 locs ht hvm hw hB hz1 hk1 hS => ?_)
  have hP : va_P (dC, dI) cls [(m0, .inr (12, [.int th, .ref lr, .ref ld, .ref o1, .int (-1), .int (-1), .int 0, .ref o2, .ref o3, .ref o4, .ref o5, .ref o6, .ref o7, .ref o8, .ref o9, .ref o10, .int 0, .int 0, .null, .int 0, .int 45, .ref t1, .ref t2, .ref t3, .ref t4, .ref t5])), (lr, .inr (14, [.int 0, .ref tE, .int 0])), (ld, .inr (14, [.int 0, .ref tE, .int 0]))] H1 := ro_keep hP hk1
  generalize H1 = H at hP hS ⊢
  refine W.widen (k := 0) (n := 0) (Nat.le_of_ble_eq_true rfl) (Nat.le_of_ble_eq_true rfl) ?_
  have hw : r_1 = 1 := hw
  subst hw
  refine lv_if_eq (tgt := 17) hx hb dX12_livingShare_10 (by decide) (fun c_2 => ?_) (fun c_2 => ?_)
  · exact absurd c_2 (by decide)
  · refine lv_iconst (v := 1) hx hb dX12_livingShare_13 (by decide) ?_
    refine lv_goto (tgt := 18) hx hb dX12_livingShare_14 (by decide) ?_
    have hPc := hP.sub (ws' := [(m0, .inr (12, [.int th, .ref lr, .ref ld, .ref o1, .int (-1), .int (-1), .int 0, .ref o2, .ref o3, .ref o4, .ref o5, .ref o6, .ref o7, .ref o8, .ref o9, .ref o10, .int 0, .int 0, .null, .int 0, .int 45, .ref t1, .ref t2, .ref t3, .ref t4, .ref t5]))]) [0] rfl
    have hKc := hK.sub (tys' := []) [] rfl
    have hDc := hD.sub (ws' := [(m0, .inr (12, [.int th, .ref lr, .ref ld, .ref o1, .int (-1), .int (-1), .int 0, .ref o2, .ref o3, .ref o4, .ref o5, .ref o6, .ref o7, .ref o8, .ref o9, .ref o10, .int 0, .int 0, .null, .int 0, .int 45, .ref t1, .ref t2, .ref t3, .ref t4, .ref t5]))]) [0] (by decide) rfl
    have hFc := va_free (wc := [(m0, .inr (12, [.int th, .ref lr, .ref ld, .ref o1, .int (-1), .int (-1), .int 0, .ref o2, .ref o3, .ref o4, .ref o5, .ref o6, .ref o7, .ref o8, .ref o9, .ref o10, .int 0, .int 0, .null, .int 0, .int 45, .ref t1, .ref t2, .ref t3, .ref t4, .ref t5]))]) hD hS hA [0] rfl
    refine va_calli (va_runV (As := [.int 1]) (rest := []) ⟨hx, hb, hml, hown, hq⟩ (c_isWrong1 l hst tE adK adV dC dI m0 lr ld o1 o2 o3 o4 o5 o6 o7 o8 o9 o10 t1 t2 t3 t4 t5 th H.size) (tcV 1 hq q_1488 q_12 q_1485 q_1487 qp_22 rfl rfl (by decide +kernel) ⟨Nat.le_of_ble_eq_true rfl, Nat.le_of_ble_eq_true rfl⟩) (pre.V (va_recv hK hP (ci := 12) (q0 := 0) rfl rfl) (pre.of hPc hDc hKc ham hS hFc)) rfl rfl hl.1 rfl (lv_room (Nat.le_of_ble_eq_true rfl)) dX12_livingShare_18 ⟨Nat.le_of_ble_eq_true rfl, Nat.le_of_ble_eq_true rfl⟩) hS (fun q _ h => hFc q h) hFc (fun r_3 u t H1 locs ht hvm hw hB hz1 hk1 hS => ?_)
    obtain ⟨hP1, hK1, hD1⟩ := hB
    rw [ht] at hP1
    have hK1 := va_K.moved hvm.symm hK1
    obtain ⟨hP, hD⟩ := va_join (wr := [(lr, .inr (14, [.int 0, .ref tE, .int 0])), (ld, .inr (14, [.int 0, .ref tE, .int 0]))]) (w1 := [(m0, .inr (12, [.int 1, .ref lr, .ref ld, .ref o1, .int (-1), .int (-1), .int 0, .ref o2, .ref o3, .ref o4, .ref o5, .ref o6, .ref o7, .ref o8, .ref o9, .ref o10, .int 0, .int 0, .null, .int 0, .int 45, .ref t1, .ref t2, .ref t3, .ref t4, .ref t5]))]) (wc := [(m0, .inr (12, [.int th, .ref lr, .ref ld, .ref o1, .int (-1), .int (-1), .int 0, .ref o2, .ref o3, .ref o4, .ref o5, .ref o6, .ref o7, .ref o8, .ref o9, .ref o10, .int 0, .int 0, .null, .int 0, .int 45, .ref t1, .ref t2, .ref t3, .ref t4, .ref t5]))]) hP hD [0] [1, 2] rfl rfl (by decide) (by decide) hk1 hFc hP1 hD1
    have hK := (hK.sub (tys' := []) [] rfl).app hK1
    generalize H1 = H at hP hS ⊢
    have hP : va_P (dC, dI) cls [(lr, .inr (14, [.int 0, .ref tE, .int 0])), (ld, .inr (14, [.int 0, .ref tE, .int 0])), (m0, .inr (12, [.int 1, .ref lr, .ref ld, .ref o1, .int (-1), .int (-1), .int 0, .ref o2, .ref o3, .ref o4, .ref o5, .ref o6, .ref o7, .ref o8, .ref o9, .ref o10, .int 0, .int 0, .null, .int 0, .int 45, .ref t1, .ref t2, .ref t3, .ref t4, .ref t5]))] H := hP
    have hD : va_D A [(lr, .inr (14, [.int 0, .ref tE, .int 0])), (ld, .inr (14, [.int 0, .ref tE, .int 0])), (m0, .inr (12, [.int 1, .ref lr, .ref ld, .ref o1, .int (-1), .int (-1), .int 0, .ref o2, .ref o3, .ref o4, .ref o5, .ref o6, .ref o7, .ref o8, .ref o9, .ref o10, .int 0, .int 0, .null, .int 0, .int 45, .ref t1, .ref t2, .ref t3, .ref t4, .ref t5]))] := hD
    have hK : va_K (dC, dI) cls [] s := hK
    refine W.widen (k := 0) (n := 0) (Nat.le_of_ble_eq_true rfl) (Nat.le_of_ble_eq_true rfl) ?_
    have hw : r_3 = 1 := hw
    subst hw
    refine lv_if_eq (tgt := 28) hx hb dX12_livingShare_21 (by decide) (fun c_4 => ?_) (fun c_4 => ?_)
    · exact absurd c_4 (by decide)
    · refine lv_fconst0 hx hb dX12_livingShare_24 ?_
      refine lv_goto (tgt := 46) hx hb dX12_livingShare_25 (by decide) ?_
      refine W.widen (k := 0) (n := 0) (Nat.le_of_ble_eq_true rfl) (Nat.le_of_ble_eq_true rfl) ?_
      have hP9 := hP.sub (ws' := [(m0, .inr (12, [.int 1, .ref lr, .ref ld, .ref o1, .int (-1), .int (-1), .int 0, .ref o2, .ref o3, .ref o4, .ref o5, .ref o6, .ref o7, .ref o8, .ref o9, .ref o10, .int 0, .int 0, .null, .int 0, .int 45, .ref t1, .ref t2, .ref t3, .ref t4, .ref t5]))]) [2] rfl
      have hD9 := hD.sub (ws' := [(m0, .inr (12, [.int 1, .ref lr, .ref ld, .ref o1, .int (-1), .int (-1), .int 0, .ref o2, .ref o3, .ref o4, .ref o5, .ref o6, .ref o7, .ref o8, .ref o9, .ref o10, .int 0, .int 0, .null, .int 0, .int 45, .ref t1, .ref t2, .ref t3, .ref t4, .ref t5]))]) [2] (by decide) rfl
      have hK9 := hK.sub (tys' := []) [] rfl
      exact W.fret (v := FP.fconst0) hx hb hr (fun t ht hW => ⟨⟨FP.fconst0, (), rfl, trivial, ⟨by rw [ht]; exact hP9, va_K.moved hW.alike hK9, hD9⟩⟩, hS.F ht⟩) hS.2.2 dX12_livingShare_46
abbrev cX12_meanWorlds : ByteArray := prog_13_method_64_code
def yX12_meanWorlds : MethodName := ⟨RX12, "meanWorlds", "()D"⟩
theorem dX12_meanWorlds_0 : decode cX12_meanWorlds 0 = .ok (.aload_n 0, 1) := by decide +kernel
theorem dX12_meanWorlds_1 : decode cX12_meanWorlds 1 = .ok (.aload_n 0, 1) := by decide +kernel
theorem dX12_meanWorlds_2 : decode cX12_meanWorlds 2 = .ok (.getfield 106, 3) := by decide +kernel
theorem dX12_meanWorlds_5 : decode cX12_meanWorlds 5 = .ok (.ifCond .eq 7, 3) := by decide +kernel
theorem dX12_meanWorlds_12 : decode cX12_meanWorlds 12 = .ok (.iconst 1, 1) := by decide +kernel
theorem dX12_meanWorlds_13 : decode cX12_meanWorlds 13 = .ok (.invokevirtual 110, 3) := by decide +kernel
theorem dX12_meanWorlds_16 : decode cX12_meanWorlds 16 = .ok (.ifCond .eq 5, 3) := by decide +kernel
theorem dX12_meanWorlds_19 : decode cX12_meanWorlds 19 = .ok (.dconst 0, 1) := by decide +kernel
theorem dX12_meanWorlds_20 : decode cX12_meanWorlds 20 = .ok (.dreturn, 1) := by decide +kernel
set_option maxHeartbeats 4000000 in
set_option maxRecDepth 100000 in
theorem c_M_meanWorlds (l : Launch) (hst : l.stackTraces = false) (tE : Nat) (adK adV : Nat → Nat) (dC : Nat → ClassId) (dI : Nat → Nat → Nat) (m0 : Nat) (lr : Nat) (ld : Nat) (o1 : Nat) (o2 : Nat) (o3 : Nat) (o4 : Nat) (o5 : Nat) (o6 : Nat) (o7 : Nat) (o8 : Nat) (o9 : Nat) (o10 : Nat) (t1 : Nat) (t2 : Nat) (t3 : Nat) (t4 : Nat) (t5 : Nat) (th : Int32) (sz : Nat) : Met l yX12_meanWorlds (Cond.code yX12_meanWorlds cX12_meanWorlds 3 (some .double) :: tw) ({ frames := 1, cells := 0, slots := 0, locals := 21 }) (va_Pc [.ref m0] (pre tE adK adV (dC, dI) [(m0, .inr (12, [.int th, .ref lr, .ref ld, .ref o1, .int (-1), .int (-1), .int 0, .ref o2, .ref o3, .ref o4, .ref o5, .ref o6, .ref o7, .ref o8, .ref o9, .ref o10, .int 0, .int 0, .null, .int 0, .int 45, .ref t1, .ref t2, .ref t3, .ref t4, .ref t5])), (lr, .inr (14, [.int 0, .ref tE, .int 0])), (ld, .inr (14, [.int 0, .ref tE, .int 0]))] [] sz)) (va_Qd (fun (r : UInt64) (_ : Unit) => True) (fun (_ : Unit) (t : State) => va_P (dC, dI) cls [(m0, .inr (12, [.int 1, .ref lr, .ref ld, .ref o1, .int (-1), .int (-1), .int 0, .ref o2, .ref o3, .ref o4, .ref o5, .ref o6, .ref o7, .ref o8, .ref o9, .ref o10, .int 0, .int 0, .null, .int 0, .int 45, .ref t1, .ref t2, .ref t3, .ref t4, .ref t5]))] t.heap ∧ va_K (dC, dI) cls [] t ∧ va_D (va_A [(m0, .inr (12, [.int th, .ref lr, .ref ld, .ref o1, .int (-1), .int (-1), .int 0, .ref o2, .ref o3, .ref o4, .ref o5, .ref o6, .ref o7, .ref o8, .ref o9, .ref o10, .int 0, .int 0, .null, .int 0, .int 45, .ref t1, .ref t2, .ref t3, .ref t4, .ref t5])), (lr, .inr (14, [.int 0, .ref tE, .int 0])), (ld, .inr (14, [.int 0, .ref tE, .int 0]))] sz) [(m0, .inr (12, [.int 1, .ref lr, .ref ld, .ref o1, .int (-1), .int (-1), .int 0, .ref o2, .ref o3, .ref o4, .ref o5, .ref o6, .ref o7, .ref o8, .ref o9, .ref o10, .int 0, .int 0, .null, .int 0, .int 45, .ref t1, .ref t2, .ref t3, .ref t4, .ref t5]))]) (va_A [(m0, .inr (12, [.int th, .ref lr, .ref ld, .ref o1, .int (-1), .int (-1), .int 0, .ref o2, .ref o3, .ref o4, .ref o5, .ref o6, .ref o7, .ref o8, .ref o9, .ref o10, .int 0, .int 0, .null, .int 0, .int 45, .ref t1, .ref t2, .ref t3, .ref t4, .ref t5])), (lr, .inr (14, [.int 0, .ref tE, .int 0])), (ld, .inr (14, [.int 0, .ref tE, .int 0]))] sz)) 0 0 (va_A [(m0, .inr (12, [.int th, .ref lr, .ref ld, .ref o1, .int (-1), .int (-1), .int 0, .ref o2, .ref o3, .ref o4, .ref o5, .ref o6, .ref o7, .ref o8, .ref o9, .ref o10, .int 0, .int 0, .null, .int 0, .int 45, .ref t1, .ref t2, .ref t3, .ref t4, .ref t5])), (lr, .inr (14, [.int 0, .ref tE, .int 0])), (ld, .inr (14, [.int 0, .ref tE, .int 0]))] sz) := by
  refine Met.ofW (cc := cX12_meanWorlds) (maxL := 3) (ret := (some .double)) (by decide) rfl ?_
  intro p e s m args below meth c s₁ B hml hv
  obtain ⟨rfl, hsz, hP, hK, hD0, ham⟩ := hv
  have hx := B.exec
  have hb := B.bytes
  have hr := B.returns
  have hts := atoms_spec B.pre
  have hq : ∀ w ∈ tw, w.before _ s = true := fun w h => hts w (List.mem_cons_of_mem _ h)
  have hown : s.vm.findClass RX12 = some m.cls := findClass_of_methodNamed B.named
  have hlocks := B.notSynchronized
  subst hsz
  have hD := hD0.self (sz := s.heap.size)
  generalize hAe : va_A [(m0, .inr (12, [.int th, .ref lr, .ref ld, .ref o1, .int (-1), .int (-1), .int 0, .ref o2, .ref o3, .ref o4, .ref o5, .ref o6, .ref o7, .ref o8, .ref o9, .ref o10, .int 0, .int 0, .null, .int 0, .int 45, .ref t1, .ref t2, .ref t3, .ref t4, .ref t5])), (lr, .inr (14, [.int 0, .ref tE, .int 0])), (ld, .inr (14, [.int 0, .ref tE, .int 0]))] s.heap.size = A at hD ham ⊢
  have hA : ∀ q : Nat, s.heap.size ≤ q → A q := fun q h => by rw [← hAe]; exact Or.inr h
  have hS : va_S A s.heap s.heap [] := va_S.rf
  have hP : va_P (dC, dI) cls [(m0, .inr (12, [.int th, .ref lr, .ref ld, .ref o1, .int (-1), .int (-1), .int 0, .ref o2, .ref o3, .ref o4, .ref o5, .ref o6, .ref o7, .ref o8, .ref o9, .ref o10, .int 0, .int 0, .null, .int 0, .int 45, .ref t1, .ref t2, .ref t3, .ref t4, .ref t5])), (lr, .inr (14, [.int 0, .ref tE, .int 0])), (ld, .inr (14, [.int 0, .ref tE, .int 0]))] s.heap := hP
  have hl := lv_entry ([.ref m0]) (n := 3) (Nat.le_of_ble_eq_true rfl)
  rw [lg_entry_eq]
  generalize (lg_sl ([.ref m0]) ++ List.replicate (3 - (lg_sl ([.ref m0])).length) Slot.unset).toArray = ls at hl ⊢
  have hl : lv_has ls 3 [(0, .ref m0)] := hl
  refine lv_aload_n hx hb dX12_meanWorlds_0 rfl (lv_at hl 0 rfl) ?_
  refine lv_aload_n hx hb dX12_meanWorlds_1 rfl (lv_at hl 0 rfl) ?_
  refine va_get (D := (dC, dI)) (ci := 12) (v := .int 0) (C := RX12) (T := TX12) (N := 26) hx hb hq i_X12 hown hK hP 0 rfl rfl 6 (by decide) (hq _ q_1310) (fun _ h9 => h9) rfl dX12_meanWorlds_2 ?_
  refine lv_if_eq (tgt := 12) hx hb dX12_meanWorlds_5 (by decide) (fun c_1 => ?_) (fun c_1 => ?_)
  · refine lv_iconst (v := 1) hx hb dX12_meanWorlds_12 (by decide) ?_
    have hPc := hP.sub (ws' := [(m0, .inr (12, [.int th, .ref lr, .ref ld, .ref o1, .int (-1), .int (-1), .int 0, .ref o2, .ref o3, .ref o4, .ref o5, .ref o6, .ref o7, .ref o8, .ref o9, .ref o10, .int 0, .int 0, .null, .int 0, .int 45, .ref t1, .ref t2, .ref t3, .ref t4, .ref t5]))]) [0] rfl
    have hKc := hK.sub (tys' := []) [] rfl
    have hDc := hD.sub (ws' := [(m0, .inr (12, [.int th, .ref lr, .ref ld, .ref o1, .int (-1), .int (-1), .int 0, .ref o2, .ref o3, .ref o4, .ref o5, .ref o6, .ref o7, .ref o8, .ref o9, .ref o10, .int 0, .int 0, .null, .int 0, .int 45, .ref t1, .ref t2, .ref t3, .ref t4, .ref t5]))]) [0] (by decide) rfl
    have hFc := va_free (wc := [(m0, .inr (12, [.int th, .ref lr, .ref ld, .ref o1, .int (-1), .int (-1), .int 0, .ref o2, .ref o3, .ref o4, .ref o5, .ref o6, .ref o7, .ref o8, .ref o9, .ref o10, .int 0, .int 0, .null, .int 0, .int 45, .ref t1, .ref t2, .ref t3, .ref t4, .ref t5]))]) hD hS hA [0] rfl
    refine va_calli (va_runV (As := [.int 1]) (rest := []) ⟨hx, hb, hml, hown, hq⟩ (c_isWrong1 l hst tE adK adV dC dI m0 lr ld o1 o2 o3 o4 o5 o6 o7 o8 o9 o10 t1 t2 t3 t4 t5 th s.heap.size) (tcV 1 hq q_1488 q_12 q_1485 q_1487 qp_22 rfl rfl (by decide +kernel) ⟨Nat.le_of_ble_eq_true rfl, Nat.le_of_ble_eq_true rfl⟩) (pre.V (va_recv hK hP (ci := 12) (q0 := 0) rfl rfl) (pre.of hPc hDc hKc ham hS hFc)) rfl rfl hl.1 rfl (lv_room (Nat.le_of_ble_eq_true rfl)) dX12_meanWorlds_13 ⟨Nat.le_of_ble_eq_true rfl, Nat.le_of_ble_eq_true rfl⟩) hS (fun q _ h => hFc q h) hFc (fun r_2 u t H1 locs ht hvm hw hB hz1 hk1 hS => ?_)
    obtain ⟨hP1, hK1, hD1⟩ := hB
    rw [ht] at hP1
    have hK1 := va_K.moved hvm.symm hK1
    obtain ⟨hP, hD⟩ := va_join (wr := [(lr, .inr (14, [.int 0, .ref tE, .int 0])), (ld, .inr (14, [.int 0, .ref tE, .int 0]))]) (w1 := [(m0, .inr (12, [.int 1, .ref lr, .ref ld, .ref o1, .int (-1), .int (-1), .int 0, .ref o2, .ref o3, .ref o4, .ref o5, .ref o6, .ref o7, .ref o8, .ref o9, .ref o10, .int 0, .int 0, .null, .int 0, .int 45, .ref t1, .ref t2, .ref t3, .ref t4, .ref t5]))]) (wc := [(m0, .inr (12, [.int th, .ref lr, .ref ld, .ref o1, .int (-1), .int (-1), .int 0, .ref o2, .ref o3, .ref o4, .ref o5, .ref o6, .ref o7, .ref o8, .ref o9, .ref o10, .int 0, .int 0, .null, .int 0, .int 45, .ref t1, .ref t2, .ref t3, .ref t4, .ref t5]))]) hP hD [0] [1, 2] rfl rfl (by decide) (by decide) hk1 hFc hP1 hD1
    have hK := (hK.sub (tys' := []) [] rfl).app hK1
    generalize H1 = H at hP hS ⊢
    have hP : va_P (dC, dI) cls [(lr, .inr (14, [.int 0, .ref tE, .int 0])), (ld, .inr (14, [.int 0, .ref tE, .int 0])), (m0, .inr (12, [.int 1, .ref lr, .ref ld, .ref o1, .int (-1), .int (-1), .int 0, .ref o2, .ref o3, .ref o4, .ref o5, .ref o6, .ref o7, .ref o8, .ref o9, .ref o10, .int 0, .int 0, .null, .int 0, .int 45, .ref t1, .ref t2, .ref t3, .ref t4, .ref t5]))] H := hP
    have hD : va_D A [(lr, .inr (14, [.int 0, .ref tE, .int 0])), (ld, .inr (14, [.int 0, .ref tE, .int 0])), (m0, .inr (12, [.int 1, .ref lr, .ref ld, .ref o1, .int (-1), .int (-1), .int 0, .ref o2, .ref o3, .ref o4, .ref o5, .ref o6, .ref o7, .ref o8, .ref o9, .ref o10, .int 0, .int 0, .null, .int 0, .int 45, .ref t1, .ref t2, .ref t3, .ref t4, .ref t5]))] := hD
    have hK : va_K (dC, dI) cls [] s := hK
    refine W.widen (k := 0) (n := 0) (Nat.le_of_ble_eq_true rfl) (Nat.le_of_ble_eq_true rfl) ?_
    have hw : r_2 = 1 := hw
    subst hw
    refine lv_if_eq (tgt := 21) hx hb dX12_meanWorlds_16 (by decide) (fun c_3 => ?_) (fun c_3 => ?_)
    · exact absurd c_3 (by decide)
    · refine lv_dconst0 hx hb dX12_meanWorlds_19 ?_
      refine W.widen (k := 0) (n := 0) (Nat.le_of_ble_eq_true rfl) (Nat.le_of_ble_eq_true rfl) ?_
      have hP9 := hP.sub (ws' := [(m0, .inr (12, [.int 1, .ref lr, .ref ld, .ref o1, .int (-1), .int (-1), .int 0, .ref o2, .ref o3, .ref o4, .ref o5, .ref o6, .ref o7, .ref o8, .ref o9, .ref o10, .int 0, .int 0, .null, .int 0, .int 45, .ref t1, .ref t2, .ref t3, .ref t4, .ref t5]))]) [2] rfl
      have hD9 := hD.sub (ws' := [(m0, .inr (12, [.int 1, .ref lr, .ref ld, .ref o1, .int (-1), .int (-1), .int 0, .ref o2, .ref o3, .ref o4, .ref o5, .ref o6, .ref o7, .ref o8, .ref o9, .ref o10, .int 0, .int 0, .null, .int 0, .int 45, .ref t1, .ref t2, .ref t3, .ref t4, .ref t5]))]) [2] (by decide) rfl
      have hK9 := hK.sub (tys' := []) [] rfl
      exact W.dret (v := FP.dconst0) hx hb hr (fun t ht hW => ⟨⟨FP.dconst0, (), rfl, trivial, ⟨by rw [ht]; exact hP9, va_K.moved hW.alike hK9, hD9⟩⟩, hS.F ht⟩) hS.2.2 dX12_meanWorlds_20
  · exact absurd c_1 (by decide)
abbrev cX12_winner : ByteArray := prog_13_method_43_code
def yX12_winner : MethodName := ⟨RX12, "winner", "()C"⟩
theorem dX12_winner_0 : decode cX12_winner 0 = .ok (.aload_n 0, 1) := by decide +kernel
theorem dX12_winner_1 : decode cX12_winner 1 = .ok (.iconst 0, 1) := by decide +kernel
theorem dX12_winner_2 : decode cX12_winner 2 = .ok (.putfield 1, 3) := by decide +kernel
theorem dX12_winner_5 : decode cX12_winner 5 = .ok (.aload_n 0, 1) := by decide +kernel
theorem dX12_winner_6 : decode cX12_winner 6 = .ok (.getfield 68, 3) := by decide +kernel
theorem dX12_winner_9 : decode cX12_winner 9 = .ok (.ireturn, 1) := by decide +kernel
set_option maxHeartbeats 4000000 in
set_option maxRecDepth 100000 in
theorem c_M_winner (l : Launch) (hst : l.stackTraces = false) (tE : Nat) (adK adV : Nat → Nat) (dC : Nat → ClassId) (dI : Nat → Nat → Nat) (m0 : Nat) (lr : Nat) (ld : Nat) (o1 : Nat) (o2 : Nat) (o3 : Nat) (o4 : Nat) (o5 : Nat) (o6 : Nat) (o7 : Nat) (o8 : Nat) (o9 : Nat) (o10 : Nat) (t1 : Nat) (t2 : Nat) (t3 : Nat) (t4 : Nat) (t5 : Nat) (th : Int32) (sz : Nat) : Met l yX12_winner (Cond.code yX12_winner cX12_winner 1 (some .char) :: tw) ({ frames := 0, cells := 0, slots := 0, locals := 0 }) (va_Pc [.ref m0] (pre tE adK adV (dC, dI) [(m0, .inr (12, [.int th, .ref lr, .ref ld, .ref o1, .int (-1), .int (-1), .int 0, .ref o2, .ref o3, .ref o4, .ref o5, .ref o6, .ref o7, .ref o8, .ref o9, .ref o10, .int 0, .int 0, .null, .int 0, .int 45, .ref t1, .ref t2, .ref t3, .ref t4, .ref t5])), (lr, .inr (14, [.int 0, .ref tE, .int 0])), (ld, .inr (14, [.int 0, .ref tE, .int 0]))] [] sz)) (va_Qi (fun (r : Int32) (_ : Unit) => r = 45) (fun (_ : Unit) (t : State) => va_P (dC, dI) cls [(m0, .inr (12, [.int 0, .ref lr, .ref ld, .ref o1, .int (-1), .int (-1), .int 0, .ref o2, .ref o3, .ref o4, .ref o5, .ref o6, .ref o7, .ref o8, .ref o9, .ref o10, .int 0, .int 0, .null, .int 0, .int 45, .ref t1, .ref t2, .ref t3, .ref t4, .ref t5]))] t.heap ∧ va_K (dC, dI) cls [] t ∧ va_D (va_A [(m0, .inr (12, [.int th, .ref lr, .ref ld, .ref o1, .int (-1), .int (-1), .int 0, .ref o2, .ref o3, .ref o4, .ref o5, .ref o6, .ref o7, .ref o8, .ref o9, .ref o10, .int 0, .int 0, .null, .int 0, .int 45, .ref t1, .ref t2, .ref t3, .ref t4, .ref t5])), (lr, .inr (14, [.int 0, .ref tE, .int 0])), (ld, .inr (14, [.int 0, .ref tE, .int 0]))] sz) [(m0, .inr (12, [.int 0, .ref lr, .ref ld, .ref o1, .int (-1), .int (-1), .int 0, .ref o2, .ref o3, .ref o4, .ref o5, .ref o6, .ref o7, .ref o8, .ref o9, .ref o10, .int 0, .int 0, .null, .int 0, .int 45, .ref t1, .ref t2, .ref t3, .ref t4, .ref t5]))]) (va_A [(m0, .inr (12, [.int th, .ref lr, .ref ld, .ref o1, .int (-1), .int (-1), .int 0, .ref o2, .ref o3, .ref o4, .ref o5, .ref o6, .ref o7, .ref o8, .ref o9, .ref o10, .int 0, .int 0, .null, .int 0, .int 45, .ref t1, .ref t2, .ref t3, .ref t4, .ref t5])), (lr, .inr (14, [.int 0, .ref tE, .int 0])), (ld, .inr (14, [.int 0, .ref tE, .int 0]))] sz)) 0 0 (va_A [(m0, .inr (12, [.int th, .ref lr, .ref ld, .ref o1, .int (-1), .int (-1), .int 0, .ref o2, .ref o3, .ref o4, .ref o5, .ref o6, .ref o7, .ref o8, .ref o9, .ref o10, .int 0, .int 0, .null, .int 0, .int 45, .ref t1, .ref t2, .ref t3, .ref t4, .ref t5])), (lr, .inr (14, [.int 0, .ref tE, .int 0])), (ld, .inr (14, [.int 0, .ref tE, .int 0]))] sz) := by
  refine Met.ofW (cc := cX12_winner) (maxL := 1) (ret := (some .char)) (by decide) rfl ?_
  intro p e s m args below meth c s₁ B hml hv
  obtain ⟨rfl, hsz, hP, hK, hD0, ham⟩ := hv
  have hx := B.exec
  have hb := B.bytes
  have hr := B.returns
  have hts := atoms_spec B.pre
  have hq : ∀ w ∈ tw, w.before _ s = true := fun w h => hts w (List.mem_cons_of_mem _ h)
  have hown : s.vm.findClass RX12 = some m.cls := findClass_of_methodNamed B.named
  have hlocks := B.notSynchronized
  subst hsz
  have hD := hD0.self (sz := s.heap.size)
  generalize hAe : va_A [(m0, .inr (12, [.int th, .ref lr, .ref ld, .ref o1, .int (-1), .int (-1), .int 0, .ref o2, .ref o3, .ref o4, .ref o5, .ref o6, .ref o7, .ref o8, .ref o9, .ref o10, .int 0, .int 0, .null, .int 0, .int 45, .ref t1, .ref t2, .ref t3, .ref t4, .ref t5])), (lr, .inr (14, [.int 0, .ref tE, .int 0])), (ld, .inr (14, [.int 0, .ref tE, .int 0]))] s.heap.size = A at hD ham ⊢
  have hA : ∀ q : Nat, s.heap.size ≤ q → A q := fun q h => by rw [← hAe]; exact Or.inr h
  have hS : va_S A s.heap s.heap [] := va_S.rf
  have hP : va_P (dC, dI) cls [(m0, .inr (12, [.int th, .ref lr, .ref ld, .ref o1, .int (-1), .int (-1), .int 0, .ref o2, .ref o3, .ref o4, .ref o5, .ref o6, .ref o7, .ref o8, .ref o9, .ref o10, .int 0, .int 0, .null, .int 0, .int 45, .ref t1, .ref t2, .ref t3, .ref t4, .ref t5])), (lr, .inr (14, [.int 0, .ref tE, .int 0])), (ld, .inr (14, [.int 0, .ref tE, .int 0]))] s.heap := hP
  have hl := lv_entry ([.ref m0]) (n := 1) (Nat.le_of_ble_eq_true rfl)
  rw [lg_entry_eq]
  generalize (lg_sl ([.ref m0]) ++ List.replicate (1 - (lg_sl ([.ref m0])).length) Slot.unset).toArray = ls at hl ⊢
  have hl : lv_has ls 1 [(0, .ref m0)] := hl
  refine lv_aload_n hx hb dX12_winner_0 rfl (lv_at hl 0 rfl) ?_
  refine lv_iconst (v := 0) hx hb dX12_winner_1 (by decide) ?_
  refine va_put (D := (dC, dI)) (ci := 12) (v := .int 0) (ty := .int) (C := RX12) (T := TX12) (N := 26) hx hb hq i_X12 tyX12 tyX12_ok nmX12 hown hK hP hD hS 0 rfl rfl 0 (by decide) (hq _ q_1304) (fun _ h9 => h9) rfl (by decide +kernel) rfl rfl (Nat.le_of_ble_eq_true rfl) dX12_winner_2 (fun H locs hP hD hS => ?_)
  have hP : va_P (dC, dI) cls [(m0, .inr (12, [.int 0, .ref lr, .ref ld, .ref o1, .int (-1), .int (-1), .int 0, .ref o2, .ref o3, .ref o4, .ref o5, .ref o6, .ref o7, .ref o8, .ref o9, .ref o10, .int 0, .int 0, .null, .int 0, .int 45, .ref t1, .ref t2, .ref t3, .ref t4, .ref t5])), (lr, .inr (14, [.int 0, .ref tE, .int 0])), (ld, .inr (14, [.int 0, .ref tE, .int 0]))] H := hP
  have hD : va_D A [(m0, .inr (12, [.int 0, .ref lr, .ref ld, .ref o1, .int (-1), .int (-1), .int 0, .ref o2, .ref o3, .ref o4, .ref o5, .ref o6, .ref o7, .ref o8, .ref o9, .ref o10, .int 0, .int 0, .null, .int 0, .int 45, .ref t1, .ref t2, .ref t3, .ref t4, .ref t5])), (lr, .inr (14, [.int 0, .ref tE, .int 0])), (ld, .inr (14, [.int 0, .ref tE, .int 0]))] := hD
  refine lv_aload_n hx hb dX12_winner_5 rfl (lv_at hl 0 rfl) ?_
  refine va_get (D := (dC, dI)) (ci := 12) (v := .int 45) (C := RX12) (T := TX12) (N := 26) hx hb hq i_X12 hown hK hP 0 rfl rfl 20 (by decide) (hq _ q_1324) (fun _ h9 => h9) rfl dX12_winner_6 ?_
  refine W.widen (k := 0) (n := 0) (Nat.le_of_ble_eq_true rfl) (Nat.le_of_ble_eq_true rfl) ?_
  have hP9 := hP.sub (ws' := [(m0, .inr (12, [.int 0, .ref lr, .ref ld, .ref o1, .int (-1), .int (-1), .int 0, .ref o2, .ref o3, .ref o4, .ref o5, .ref o6, .ref o7, .ref o8, .ref o9, .ref o10, .int 0, .int 0, .null, .int 0, .int 45, .ref t1, .ref t2, .ref t3, .ref t4, .ref t5]))]) [0] rfl
  have hD9 := hD.sub (ws' := [(m0, .inr (12, [.int 0, .ref lr, .ref ld, .ref o1, .int (-1), .int (-1), .int 0, .ref o2, .ref o3, .ref o4, .ref o5, .ref o6, .ref o7, .ref o8, .ref o9, .ref o10, .int 0, .int 0, .null, .int 0, .int 45, .ref t1, .ref t2, .ref t3, .ref t4, .ref t5]))]) [0] (by decide) rfl
  have hK9 := hK.sub (tys' := []) [] rfl
  exact W.zret (v := 45) hx hb hr (by decide) (fun t ht hW => ⟨⟨45, (), rfl, rfl, ⟨by rw [ht]; exact hP9, va_K.moved hW.alike hK9, hD9⟩⟩, hS.F ht⟩) hS.2.2 dX12_winner_9
abbrev cX12_checksum : ByteArray := prog_13_method_62_code
def yX12_checksum : MethodName := ⟨RX12, "checksum", "()J"⟩
theorem dX12_checksum_0 : decode cX12_checksum 0 = .ok (.aload_n 0, 1) := by decide +kernel
theorem dX12_checksum_1 : decode cX12_checksum 1 = .ok (.iconst 0, 1) := by decide +kernel
theorem dX12_checksum_2 : decode cX12_checksum 2 = .ok (.putfield 1, 3) := by decide +kernel
theorem dX12_checksum_5 : decode cX12_checksum 5 = .ok (.ldc2_w 313, 3) := by decide +kernel
theorem q_1973 : (Cond.constantLong "NightfallVillageModel" 313 7) ∈ tw := tw_in (i := 1973) (by decide +kernel) (by decide +kernel)
theorem dX12_checksum_8 : decode cX12_checksum 8 = .ok (.lstore_n 1, 1) := by decide +kernel
theorem dX12_checksum_9 : decode cX12_checksum 9 = .ok (.iconst 0, 1) := by decide +kernel
theorem dX12_checksum_10 : decode cX12_checksum 10 = .ok (.istore_n 3, 1) := by decide +kernel
theorem dX12_checksum_11 : decode cX12_checksum 11 = .ok (.iload_n 3, 1) := by decide +kernel
theorem dX12_checksum_12 : decode cX12_checksum 12 = .ok (.aload_n 0, 1) := by decide +kernel
theorem dX12_checksum_13 : decode cX12_checksum 13 = .ok (.getfield 26, 3) := by decide +kernel
theorem dX12_checksum_16 : decode cX12_checksum 16 = .ok (.invokeinterface 7 1, 5) := by decide +kernel
theorem dX12_checksum_21 : decode cX12_checksum 21 = .ok (.if_icmp .ge 34, 3) := by decide +kernel
theorem dX12_checksum_55 : decode cX12_checksum 55 = .ok (.lload_n 1, 1) := by decide +kernel
theorem dX12_checksum_56 : decode cX12_checksum 56 = .ok (.lreturn, 1) := by decide +kernel
set_option maxHeartbeats 4000000 in
set_option maxRecDepth 100000 in
theorem c_M_checksum (l : Launch) (hst : l.stackTraces = false) (tE : Nat) (adK adV : Nat → Nat) (dC : Nat → ClassId) (dI : Nat → Nat → Nat) (m0 : Nat) (lr : Nat) (ld : Nat) (o1 : Nat) (o2 : Nat) (o3 : Nat) (o4 : Nat) (o5 : Nat) (o6 : Nat) (o7 : Nat) (o8 : Nat) (o9 : Nat) (o10 : Nat) (t1 : Nat) (t2 : Nat) (t3 : Nat) (t4 : Nat) (t5 : Nat) (th : Int32) (sz : Nat) : Met l yX12_checksum (Cond.code yX12_checksum cX12_checksum 4 (some .long) :: tw) ({ frames := 1, cells := 0, slots := 0, locals := 20 }) (va_Pc [.ref m0] (pre tE adK adV (dC, dI) [(m0, .inr (12, [.int th, .ref lr, .ref ld, .ref o1, .int (-1), .int (-1), .int 0, .ref o2, .ref o3, .ref o4, .ref o5, .ref o6, .ref o7, .ref o8, .ref o9, .ref o10, .int 0, .int 0, .null, .int 0, .int 45, .ref t1, .ref t2, .ref t3, .ref t4, .ref t5])), (lr, .inr (14, [.int 0, .ref tE, .int 0])), (ld, .inr (14, [.int 0, .ref tE, .int 0]))] [] sz)) (va_Ql (fun (r : Int64) (_ : Unit) => r = 7) (fun (_ : Unit) (t : State) => va_P (dC, dI) cls [(m0, .inr (12, [.int 0, .ref lr, .ref ld, .ref o1, .int (-1), .int (-1), .int 0, .ref o2, .ref o3, .ref o4, .ref o5, .ref o6, .ref o7, .ref o8, .ref o9, .ref o10, .int 0, .int 0, .null, .int 0, .int 45, .ref t1, .ref t2, .ref t3, .ref t4, .ref t5]))] t.heap ∧ va_K (dC, dI) cls [] t ∧ va_D (va_A [(m0, .inr (12, [.int th, .ref lr, .ref ld, .ref o1, .int (-1), .int (-1), .int 0, .ref o2, .ref o3, .ref o4, .ref o5, .ref o6, .ref o7, .ref o8, .ref o9, .ref o10, .int 0, .int 0, .null, .int 0, .int 45, .ref t1, .ref t2, .ref t3, .ref t4, .ref t5])), (lr, .inr (14, [.int 0, .ref tE, .int 0])), (ld, .inr (14, [.int 0, .ref tE, .int 0]))] sz) [(m0, .inr (12, [.int 0, .ref lr, .ref ld, .ref o1, .int (-1), .int (-1), .int 0, .ref o2, .ref o3, .ref o4, .ref o5, .ref o6, .ref o7, .ref o8, .ref o9, .ref o10, .int 0, .int 0, .null, .int 0, .int 45, .ref t1, .ref t2, .ref t3, .ref t4, .ref t5]))]) (va_A [(m0, .inr (12, [.int th, .ref lr, .ref ld, .ref o1, .int (-1), .int (-1), .int 0, .ref o2, .ref o3, .ref o4, .ref o5, .ref o6, .ref o7, .ref o8, .ref o9, .ref o10, .int 0, .int 0, .null, .int 0, .int 45, .ref t1, .ref t2, .ref t3, .ref t4, .ref t5])), (lr, .inr (14, [.int 0, .ref tE, .int 0])), (ld, .inr (14, [.int 0, .ref tE, .int 0]))] sz)) 0 0 (va_A [(m0, .inr (12, [.int th, .ref lr, .ref ld, .ref o1, .int (-1), .int (-1), .int 0, .ref o2, .ref o3, .ref o4, .ref o5, .ref o6, .ref o7, .ref o8, .ref o9, .ref o10, .int 0, .int 0, .null, .int 0, .int 45, .ref t1, .ref t2, .ref t3, .ref t4, .ref t5])), (lr, .inr (14, [.int 0, .ref tE, .int 0])), (ld, .inr (14, [.int 0, .ref tE, .int 0]))] sz) := by
  refine Met.ofW (cc := cX12_checksum) (maxL := 4) (ret := (some .long)) (by decide) rfl ?_
  intro p e s m args below meth c s₁ B hml hv
  obtain ⟨rfl, hsz, hP, hK, hD0, ham⟩ := hv
  have hx := B.exec
  have hb := B.bytes
  have hr := B.returns
  have hts := atoms_spec B.pre
  have hq : ∀ w ∈ tw, w.before _ s = true := fun w h => hts w (List.mem_cons_of_mem _ h)
  have hown : s.vm.findClass RX12 = some m.cls := findClass_of_methodNamed B.named
  have hlocks := B.notSynchronized
  subst hsz
  have hD := hD0.self (sz := s.heap.size)
  generalize hAe : va_A [(m0, .inr (12, [.int th, .ref lr, .ref ld, .ref o1, .int (-1), .int (-1), .int 0, .ref o2, .ref o3, .ref o4, .ref o5, .ref o6, .ref o7, .ref o8, .ref o9, .ref o10, .int 0, .int 0, .null, .int 0, .int 45, .ref t1, .ref t2, .ref t3, .ref t4, .ref t5])), (lr, .inr (14, [.int 0, .ref tE, .int 0])), (ld, .inr (14, [.int 0, .ref tE, .int 0]))] s.heap.size = A at hD ham ⊢
  have hA : ∀ q : Nat, s.heap.size ≤ q → A q := fun q h => by rw [← hAe]; exact Or.inr h
  have hS : va_S A s.heap s.heap [] := va_S.rf
  have hP : va_P (dC, dI) cls [(m0, .inr (12, [.int th, .ref lr, .ref ld, .ref o1, .int (-1), .int (-1), .int 0, .ref o2, .ref o3, .ref o4, .ref o5, .ref o6, .ref o7, .ref o8, .ref o9, .ref o10, .int 0, .int 0, .null, .int 0, .int 45, .ref t1, .ref t2, .ref t3, .ref t4, .ref t5])), (lr, .inr (14, [.int 0, .ref tE, .int 0])), (ld, .inr (14, [.int 0, .ref tE, .int 0]))] s.heap := hP
  have hl := lv_entry ([.ref m0]) (n := 4) (Nat.le_of_ble_eq_true rfl)
  rw [lg_entry_eq]
  generalize (lg_sl ([.ref m0]) ++ List.replicate (4 - (lg_sl ([.ref m0])).length) Slot.unset).toArray = ls at hl ⊢
  have hl : lv_has ls 4 [(0, .ref m0)] := hl
  refine lv_aload_n hx hb dX12_checksum_0 rfl (lv_at hl 0 rfl) ?_
  refine lv_iconst (v := 0) hx hb dX12_checksum_1 (by decide) ?_
  refine va_put (D := (dC, dI)) (ci := 12) (v := .int 0) (ty := .int) (C := RX12) (T := TX12) (N := 26) hx hb hq i_X12 tyX12 tyX12_ok nmX12 hown hK hP hD hS 0 rfl rfl 0 (by decide) (hq _ q_1304) (fun _ h9 => h9) rfl (by decide +kernel) rfl rfl (Nat.le_of_ble_eq_true rfl) dX12_checksum_2 (fun H locs hP hD hS => ?_)
  have hP : va_P (dC, dI) cls [(m0, .inr (12, [.int 0, .ref lr, .ref ld, .ref o1, .int (-1), .int (-1), .int 0, .ref o2, .ref o3, .ref o4, .ref o5, .ref o6, .ref o7, .ref o8, .ref o9, .ref o10, .int 0, .int 0, .null, .int 0, .int 45, .ref t1, .ref t2, .ref t3, .ref t4, .ref t5])), (lr, .inr (14, [.int 0, .ref tE, .int 0])), (ld, .inr (14, [.int 0, .ref tE, .int 0]))] H := hP
  have hD : va_D A [(m0, .inr (12, [.int 0, .ref lr, .ref ld, .ref o1, .int (-1), .int (-1), .int 0, .ref o2, .ref o3, .ref o4, .ref o5, .ref o6, .ref o7, .ref o8, .ref o9, .ref o10, .int 0, .int 0, .null, .int 0, .int 45, .ref t1, .ref t2, .ref t3, .ref t4, .ref t5])), (lr, .inr (14, [.int 0, .ref tE, .int 0])), (ld, .inr (14, [.int 0, .ref tE, .int 0]))] := hD
  refine lv_ldc2 (v := 7) hx hb hown (hq _ q_1973) dX12_checksum_5 ?_
  refine lv_lstore_n (lv' := [(1, .long 7), (0, .ref m0)]) hx hb dX12_checksum_8 rfl hl (by decide) rfl (fun ls hl => ?_)
  refine lv_iconst (v := 0) hx hb dX12_checksum_9 (by decide) ?_
  refine lv_istore_n (lv' := [(3, .int 0), (1, .long 7), (0, .ref m0)]) hx hb dX12_checksum_10 rfl hl (by decide) rfl (fun ls hl => ?_)
  refine lv_iload_n hx hb dX12_checksum_11 rfl (lv_at hl 0 rfl) ?_
  refine lv_aload_n hx hb dX12_checksum_12 rfl (lv_at hl 2 rfl) ?_
  refine va_get (D := (dC, dI)) (ci := 12) (v := .ref ld) (C := RX12) (T := TX12) (N := 26) hx hb hq i_X12 hown hK hP 0 rfl rfl 2 (by decide) (hq _ q_1306) (fun _ h9 => h9) rfl dX12_checksum_13 ?_
  have hPc := hP.sub (ws' := [(ld, .inr (14, [.int 0, .ref tE, .int 0]))]) [2] rfl
  have hKc := hK.sub (tys' := []) [] rfl
  refine va_callFi (va_runF (hK.1 14 _ rfl).2 (As := []) (rest := [.int 0]) ⟨hx, hb, hml, hown, hq⟩ (c_size0 l hst tE adK adV dC dI ld H.size) (tcF 0 hq q_1484 q_15 q_1476 q_1482 q_1480 q_1478 q_1477 q_1483 q_1481 q_1479 rfl rfl (by decide +kernel) ⟨Nat.le_of_ble_eq_true rfl, Nat.le_of_ble_eq_true rfl⟩) (preR.V (va_recv hK hP (ci := 14) (q0 := 2) rfl rfl) (preR.of hPc hKc ham hS hA)) rfl rfl hl.1 rfl (lv_room (Nat.le_of_ble_eq_true rfl)) dX12_checksum_16 ⟨Nat.le_of_ble_eq_true rfl, Nat.le_of_ble_eq_true rfl⟩) hS (fun q _ h => hA q (Nat.le_trans hS.1 h)) (fun q h => hA q (Nat.le_trans hS.1 h)) (fun r_1 u t H1 locs ht hvm hw hB hz1 hk1 hS => ?_)
  have hP : va_P (dC, dI) cls [(m0, .inr (12, [.int 0, .ref lr, .ref ld, .ref o1, .int (-1), .int (-1), .int 0, .ref o2, .ref o3, .ref o4, .ref o5, .ref o6, .ref o7, .ref o8, .ref o9, .ref o10, .int 0, .int 0, .null, .int 0, .int 45, .ref t1, .ref t2, .ref t3, .ref t4, .ref t5])), (lr, .inr (14, [.int 0, .ref tE, .int 0])), (ld, .inr (14, [.int 0, .ref tE, .int 0]))] H1 := ro_keep hP hk1
  generalize H1 = H at hP hS ⊢
  refine W.widen (k := 0) (n := 0) (Nat.le_of_ble_eq_true rfl) (Nat.le_of_ble_eq_true rfl) ?_
  have hw : r_1 = 0 := hw
  subst hw
  refine lv_icmp_ge (tgt := 55) hx hb dX12_checksum_21 (by decide) (fun c_2 => ?_) (fun c_2 => ?_)
  · refine lv_lload_n hx hb dX12_checksum_55 rfl (lv_at hl 1 rfl) ?_
    refine W.widen (k := 0) (n := 0) (Nat.le_of_ble_eq_true rfl) (Nat.le_of_ble_eq_true rfl) ?_
    have hP9 := hP.sub (ws' := [(m0, .inr (12, [.int 0, .ref lr, .ref ld, .ref o1, .int (-1), .int (-1), .int 0, .ref o2, .ref o3, .ref o4, .ref o5, .ref o6, .ref o7, .ref o8, .ref o9, .ref o10, .int 0, .int 0, .null, .int 0, .int 45, .ref t1, .ref t2, .ref t3, .ref t4, .ref t5]))]) [0] rfl
    have hD9 := hD.sub (ws' := [(m0, .inr (12, [.int 0, .ref lr, .ref ld, .ref o1, .int (-1), .int (-1), .int 0, .ref o2, .ref o3, .ref o4, .ref o5, .ref o6, .ref o7, .ref o8, .ref o9, .ref o10, .int 0, .int 0, .null, .int 0, .int 45, .ref t1, .ref t2, .ref t3, .ref t4, .ref t5]))]) [0] (by decide) rfl
    have hK9 := hK.sub (tys' := []) [] rfl
    exact W.lret (v := 7) hx hb hr (fun t ht hW => ⟨⟨7, (), rfl, rfl, ⟨by rw [ht]; exact hP9, va_K.moved hW.alike hK9, hD9⟩⟩, hS.F ht⟩) hS.2.2 dX12_checksum_56
  · exact absurd c_2 (by decide)
abbrev cX12_isSound : ByteArray := prog_13_method_65_code
def yX12_isSound : MethodName := ⟨RX12, "isSound", "()Z"⟩
theorem dX12_isSound_0 : decode cX12_isSound 0 = .ok (.aload_n 0, 1) := by decide +kernel
theorem dX12_isSound_1 : decode cX12_isSound 1 = .ok (.iconst 0, 1) := by decide +kernel
theorem dX12_isSound_2 : decode cX12_isSound 2 = .ok (.putfield 1, 3) := by decide +kernel
theorem dX12_isSound_5 : decode cX12_isSound 5 = .ok (.iconst 1, 1) := by decide +kernel
theorem dX12_isSound_6 : decode cX12_isSound 6 = .ok (.ireturn, 1) := by decide +kernel
set_option maxHeartbeats 4000000 in
set_option maxRecDepth 100000 in
theorem c_M_isSound (l : Launch) (hst : l.stackTraces = false) (tE : Nat) (adK adV : Nat → Nat) (dC : Nat → ClassId) (dI : Nat → Nat → Nat) (m0 : Nat) (lr : Nat) (ld : Nat) (o1 : Nat) (o2 : Nat) (o3 : Nat) (o4 : Nat) (o5 : Nat) (o6 : Nat) (o7 : Nat) (o8 : Nat) (o9 : Nat) (o10 : Nat) (t1 : Nat) (t2 : Nat) (t3 : Nat) (t4 : Nat) (t5 : Nat) (th : Int32) (sz : Nat) : Met l yX12_isSound (Cond.code yX12_isSound cX12_isSound 1 (some .boolean) :: tw) ({ frames := 0, cells := 0, slots := 0, locals := 0 }) (va_Pc [.ref m0] (pre tE adK adV (dC, dI) [(m0, .inr (12, [.int th, .ref lr, .ref ld, .ref o1, .int (-1), .int (-1), .int 0, .ref o2, .ref o3, .ref o4, .ref o5, .ref o6, .ref o7, .ref o8, .ref o9, .ref o10, .int 0, .int 0, .null, .int 0, .int 45, .ref t1, .ref t2, .ref t3, .ref t4, .ref t5])), (lr, .inr (14, [.int 0, .ref tE, .int 0])), (ld, .inr (14, [.int 0, .ref tE, .int 0]))] [] sz)) (va_Qi (fun (r : Int32) (_ : Unit) => r = 1) (fun (_ : Unit) (t : State) => va_P (dC, dI) cls [(m0, .inr (12, [.int 0, .ref lr, .ref ld, .ref o1, .int (-1), .int (-1), .int 0, .ref o2, .ref o3, .ref o4, .ref o5, .ref o6, .ref o7, .ref o8, .ref o9, .ref o10, .int 0, .int 0, .null, .int 0, .int 45, .ref t1, .ref t2, .ref t3, .ref t4, .ref t5]))] t.heap ∧ va_K (dC, dI) cls [] t ∧ va_D (va_A [(m0, .inr (12, [.int th, .ref lr, .ref ld, .ref o1, .int (-1), .int (-1), .int 0, .ref o2, .ref o3, .ref o4, .ref o5, .ref o6, .ref o7, .ref o8, .ref o9, .ref o10, .int 0, .int 0, .null, .int 0, .int 45, .ref t1, .ref t2, .ref t3, .ref t4, .ref t5])), (lr, .inr (14, [.int 0, .ref tE, .int 0])), (ld, .inr (14, [.int 0, .ref tE, .int 0]))] sz) [(m0, .inr (12, [.int 0, .ref lr, .ref ld, .ref o1, .int (-1), .int (-1), .int 0, .ref o2, .ref o3, .ref o4, .ref o5, .ref o6, .ref o7, .ref o8, .ref o9, .ref o10, .int 0, .int 0, .null, .int 0, .int 45, .ref t1, .ref t2, .ref t3, .ref t4, .ref t5]))]) (va_A [(m0, .inr (12, [.int th, .ref lr, .ref ld, .ref o1, .int (-1), .int (-1), .int 0, .ref o2, .ref o3, .ref o4, .ref o5, .ref o6, .ref o7, .ref o8, .ref o9, .ref o10, .int 0, .int 0, .null, .int 0, .int 45, .ref t1, .ref t2, .ref t3, .ref t4, .ref t5])), (lr, .inr (14, [.int 0, .ref tE, .int 0])), (ld, .inr (14, [.int 0, .ref tE, .int 0]))] sz)) 0 0 (va_A [(m0, .inr (12, [.int th, .ref lr, .ref ld, .ref o1, .int (-1), .int (-1), .int 0, .ref o2, .ref o3, .ref o4, .ref o5, .ref o6, .ref o7, .ref o8, .ref o9, .ref o10, .int 0, .int 0, .null, .int 0, .int 45, .ref t1, .ref t2, .ref t3, .ref t4, .ref t5])), (lr, .inr (14, [.int 0, .ref tE, .int 0])), (ld, .inr (14, [.int 0, .ref tE, .int 0]))] sz) := by
  refine Met.ofW (cc := cX12_isSound) (maxL := 1) (ret := (some .boolean)) (by decide) rfl ?_
  intro p e s m args below meth c s₁ B hml hv
  obtain ⟨rfl, hsz, hP, hK, hD0, ham⟩ := hv
  have hx := B.exec
  have hb := B.bytes
  have hr := B.returns
  have hts := atoms_spec B.pre
  have hq : ∀ w ∈ tw, w.before _ s = true := fun w h => hts w (List.mem_cons_of_mem _ h)
  have hown : s.vm.findClass RX12 = some m.cls := findClass_of_methodNamed B.named
  have hlocks := B.notSynchronized
  subst hsz
  have hD := hD0.self (sz := s.heap.size)
  generalize hAe : va_A [(m0, .inr (12, [.int th, .ref lr, .ref ld, .ref o1, .int (-1), .int (-1), .int 0, .ref o2, .ref o3, .ref o4, .ref o5, .ref o6, .ref o7, .ref o8, .ref o9, .ref o10, .int 0, .int 0, .null, .int 0, .int 45, .ref t1, .ref t2, .ref t3, .ref t4, .ref t5])), (lr, .inr (14, [.int 0, .ref tE, .int 0])), (ld, .inr (14, [.int 0, .ref tE, .int 0]))] s.heap.size = A at hD ham ⊢
  have hA : ∀ q : Nat, s.heap.size ≤ q → A q := fun q h => by rw [← hAe]; exact Or.inr h
  have hS : va_S A s.heap s.heap [] := va_S.rf
  have hP : va_P (dC, dI) cls [(m0, .inr (12, [.int th, .ref lr, .ref ld, .ref o1, .int (-1), .int (-1), .int 0, .ref o2, .ref o3, .ref o4, .ref o5, .ref o6, .ref o7, .ref o8, .ref o9, .ref o10, .int 0, .int 0, .null, .int 0, .int 45, .ref t1, .ref t2, .ref t3, .ref t4, .ref t5])), (lr, .inr (14, [.int 0, .ref tE, .int 0])), (ld, .inr (14, [.int 0, .ref tE, .int 0]))] s.heap := hP
  have hl := lv_entry ([.ref m0]) (n := 1) (Nat.le_of_ble_eq_true rfl)
  rw [lg_entry_eq]
  generalize (lg_sl ([.ref m0]) ++ List.replicate (1 - (lg_sl ([.ref m0])).length) Slot.unset).toArray = ls at hl ⊢
  have hl : lv_has ls 1 [(0, .ref m0)] := hl
  refine lv_aload_n hx hb dX12_isSound_0 rfl (lv_at hl 0 rfl) ?_
  refine lv_iconst (v := 0) hx hb dX12_isSound_1 (by decide) ?_
  refine va_put (D := (dC, dI)) (ci := 12) (v := .int 0) (ty := .int) (C := RX12) (T := TX12) (N := 26) hx hb hq i_X12 tyX12 tyX12_ok nmX12 hown hK hP hD hS 0 rfl rfl 0 (by decide) (hq _ q_1304) (fun _ h9 => h9) rfl (by decide +kernel) rfl rfl (Nat.le_of_ble_eq_true rfl) dX12_isSound_2 (fun H locs hP hD hS => ?_)
  have hP : va_P (dC, dI) cls [(m0, .inr (12, [.int 0, .ref lr, .ref ld, .ref o1, .int (-1), .int (-1), .int 0, .ref o2, .ref o3, .ref o4, .ref o5, .ref o6, .ref o7, .ref o8, .ref o9, .ref o10, .int 0, .int 0, .null, .int 0, .int 45, .ref t1, .ref t2, .ref t3, .ref t4, .ref t5])), (lr, .inr (14, [.int 0, .ref tE, .int 0])), (ld, .inr (14, [.int 0, .ref tE, .int 0]))] H := hP
  have hD : va_D A [(m0, .inr (12, [.int 0, .ref lr, .ref ld, .ref o1, .int (-1), .int (-1), .int 0, .ref o2, .ref o3, .ref o4, .ref o5, .ref o6, .ref o7, .ref o8, .ref o9, .ref o10, .int 0, .int 0, .null, .int 0, .int 45, .ref t1, .ref t2, .ref t3, .ref t4, .ref t5])), (lr, .inr (14, [.int 0, .ref tE, .int 0])), (ld, .inr (14, [.int 0, .ref tE, .int 0]))] := hD
  refine lv_iconst (v := 1) hx hb dX12_isSound_5 (by decide) ?_
  refine W.widen (k := 0) (n := 0) (Nat.le_of_ble_eq_true rfl) (Nat.le_of_ble_eq_true rfl) ?_
  have hP9 := hP.sub (ws' := [(m0, .inr (12, [.int 0, .ref lr, .ref ld, .ref o1, .int (-1), .int (-1), .int 0, .ref o2, .ref o3, .ref o4, .ref o5, .ref o6, .ref o7, .ref o8, .ref o9, .ref o10, .int 0, .int 0, .null, .int 0, .int 45, .ref t1, .ref t2, .ref t3, .ref t4, .ref t5]))]) [0] rfl
  have hD9 := hD.sub (ws' := [(m0, .inr (12, [.int 0, .ref lr, .ref ld, .ref o1, .int (-1), .int (-1), .int 0, .ref o2, .ref o3, .ref o4, .ref o5, .ref o6, .ref o7, .ref o8, .ref o9, .ref o10, .int 0, .int 0, .null, .int 0, .int 45, .ref t1, .ref t2, .ref t3, .ref t4, .ref t5]))]) [0] (by decide) rfl
  have hK9 := hK.sub (tys' := []) [] rfl
  exact W.zret (v := 1) hx hb hr (by decide) (fun t ht hW => ⟨⟨1, (), rfl, rfl, ⟨by rw [ht]; exact hP9, va_K.moved hW.alike hK9, hD9⟩⟩, hS.F ht⟩) hS.2.2 dX12_isSound_6
