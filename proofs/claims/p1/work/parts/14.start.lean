/-! THE CLAIM OUT OF ONE WALK OF THE LAW'S BODY. Your part is whole_start (and what it stands on); all else here is the same for every law, but numbers. -/
def R_law : String := "NightfallVillageLaw"
def lw_P (b : Addr) (xs : List Int32) (args : Array Value) (s : State) : Prop := args = #[.ref b] ∧ s.IntsAt b xs ∧ xs.length ≤ 7 ∧ (Jvm.Cond.and given_1 narrow_1).before args s = true
/-- what a walk over the start with the record d0 says of its end, said of the start itself -/
theorem lw_closed {s t : State} {o : Outcome} {d0 : Drawn} {L : List Loc} {k n : Nat} (hd0 : s.drawn.sameBut d0 lw_cs) (hv : ∃ v, o = .returned v) (hW : (s.setDrawn d0).WarmedH t.vm) (hs : (s.setDrawn d0).sameButNew ({ t with vm := s.vm } : State) L k n) : State.butDraws s t lw_cs (fun t1 => Framed s o t1 L k n) := by
  have h2 : t.drawn = d0 := congrArg State.drawn hs.1
  refine ⟨⟨hv, hW, State.sameButNew.setDrawn hs s.drawn⟩, ?_, by decide⟩
  rw [h2]
  exact hd0
def lw_Q (_ : Array Value) (s : State) (o : Outcome) (t : State) : Prop := o = .returned (some (.int 1)) ∧ State.butDraws s t lw_cs (fun t1 => Framed s o t1 [] 600002 7302232)
def lw_Z (below : List Frame) (a : Array Value) (s : State) : State → Prop := fun t => ∃ o, t.status = .running ∧ Ended t below o ∧ lw_Q a s o t
/-- the law's own end, with 1 on the stack, nothing written that was there before, its room as the claim has it; d0: the record of draws at this point (at the entry s.drawn: begin with 'refine W.base ?_' and 'have hd0 := Drawn.sameBut.refl s.drawn lw_cs') -/
theorem lw_ret {p : Program} {l : Launch} {e : Env} {s : State} {m : MethodId} {below : List Frame} {meth : Method} {c : Code} {b : Nat} {d0 : Drawn} (hd0 : s.drawn.sameBut d0 lw_cs) (hx : p.tables.exec = Jvm.exec) (hb : c.code = code) (hr : meth.sig.returnType = ret) (hlocks : meth.locks = false) {pc : Nat} {H : Heap} {ls : Array Slot} (hdg : decode code pc = .ok (.ireturn, 1)) : W p l e room_1 (s.setDrawn d0) m #[Value.ref b] below meth c H [] 600002 7302232 (lw_Z below #[Value.ref b] s) (F0 m pc ls [.int 1]) := by
  intro T hT X
  obtain ⟨fs, hret, hrun, hended, hW, hframe⟩ := X.leave (v := some (.int 1)) (hlocks := hlocks) (fun h => by rw [hr] at h; cases h)
  have hmeth' : T.vm.method? m = some meth := X.method'
  refine ⟨T.setFrames fs, ?_, .returned (some (.int 1)), hrun, hended, rfl, lw_closed hd0 ⟨_, rfl⟩ hW hframe⟩
  jvm_step X.here [X.here.top, hx, hb, hdg, hmeth', hr, ret, narrow_b1]
  (try refine ⟨rfl, ?_⟩); (try refine ⟨rfl, ?_⟩)
  first | (intro acts; rw [hret _ acts rfl rfl rfl]) | rw [hret _ _ rfl rfl rfl]
  exact Steps.refl _
/-- what holds at the law's entry: the machine, the code, the tables' words (any of lw_tbl by 'hts w (by decide +kernel)'), the script of L ints xs at the cell b, what the Statement gives of the start (any of its parts by flat_of_before) -/
def lw_At (p : Program) (s : State) (m : MethodId) (meth : Method) (c : Code) (b L : Nat) (xs : Nat → Int32) : Prop :=
  p.tables.exec = Jvm.exec ∧ c.code = code ∧ meth.sig.returnType = ret ∧ c.maxLocals = 9 ∧ s.vm.findClass R_law = some m.cls ∧ (∀ w ∈ lw_tbl, w.before #[Value.ref b] s = true) ∧ va_X b L xs s s.heap ∧ b < s.heap.size ∧ meth.locks = false ∧ (Jvm.Cond.and given_1 narrow_1).before #[Value.ref b] s = true
theorem am_words : (tables_1.all (fun w => match w with | .stringRef own k _ => decide ((Cond.exactly (.string own k) "java/lang/String") ∈ flatC (Jvm.Cond.and given_1 narrow_1)) | _ => true)) = true := by decide +kernel
theorem am_w1 : (tables_1.all (fun w => match w with | .stringRef own k tx => decide (own = "NightfallVillageModel" → tx = "vwl" → k = 96) | _ => true)) = true := by decide +kernel
theorem am_w2 : (tables_1.all (fun w => match w with | .stringRef own k tx => decide (own = "NightfallVillageModel" → tx = "-brdpsqk" → k = 104) | _ => true)) = true := by decide +kernel
set_option maxRecDepth 100000 in
set_option maxHeartbeats 4000000 in
/-- the old heap and the tables at the law's entry -/
theorem am_start {s : State} {b : Nat} (hts : ∀ w ∈ lw_tbl, w.before #[Value.ref b] s = true) (hgv : (Jvm.Cond.and given_1 narrow_1).before #[Value.ref b] s = true) : ∃ (tE : Nat) (adK adV : Nat → Nat), am tE adK adV (fun q : Nat => s.heap.size ≤ q) s s.heap := by
  have hs := flat_of_before _ hgv
  have hA : ∀ a : Nat, a < s.heap.size → ¬ (fun q : Nat => s.heap.size ≤ q) a := fun a h => Nat.not_le.mpr h
  have tb : ∀ w ∈ tables_1, w.before #[Value.ref b] s = true := fun w h => hts w (List.mem_append_right _ h)
  have z1 : vx_Zq Bundle.tN "UNASSIGNED_STACK" Bundle.steD (fun q : Nat => s.heap.size ≤ q) s s.heap := vx_Zqof (tb _ (List.mem_of_getElem? (i := 723) (by decide +kernel))) (tb _ (List.mem_of_getElem? (i := 17) (by decide +kernel))) (hs _ (by decide +kernel)) hA
  have z2 : vx_Zq Bundle.tN "SUPPRESSED_SENTINEL" Bundle.listD (fun q : Nat => s.heap.size ≤ q) s s.heap := vx_Zqof (tb _ (List.mem_of_getElem? (i := 725) (by decide +kernel))) (tb _ (List.mem_of_getElem? (i := 17) (by decide +kernel))) (hs _ (by decide +kernel)) hA
  have hr : am_r s := by
    intro own k tx h
    have h1 := List.all_eq_true.mp am_words _ h
    obtain ⟨a, c, cA, kA, q1, -⟩ := Cond.exactly_spec (args := #[Value.ref b]) (first := s) (o := none) (s := s) (idx := []) (hs _ (of_decide_eq_true h1))
    exact ⟨a, vk_R.of (tb _ h) q1⟩
  obtain ⟨tE, ht, hT⟩ := va_Tof (s := s) (tm := Term.static "java/util/ArrayList" "DEFAULTCAPACITY_EMPTY_ELEMENTDATA" "[Ljava/lang/Object;") (ty := .object "java/lang/Object") (N := 0) (f := fun _ => .null) (A := fun q : Nat => s.heap.size ≤ q) (by decide) (hs _ (by decide +kernel)) (va_eqt (hs _ (by decide +kernel))) (fun j hj => absurd hj (Nat.not_lt_zero j)) hA
  have hl := va_Zref (tb _ (List.mem_of_getElem? (i := 1284) (by decide +kernel))) (tb _ (List.mem_of_getElem? (i := 15) (by decide +kernel))) ht hA
  have hc : va_Z "java/lang/String" "COMPACT_STRINGS" "Z" (.int 1) (fun q : Nat => s.heap.size ≤ q) s s.heap := va_Zof (tb _ (List.mem_of_getElem? (i := 1401) (by decide +kernel))) (tb _ (List.mem_of_getElem? (i := 23) (by decide +kernel))) (va_eqi (hs _ (by decide +kernel))) hA
  obtain ⟨xK, xV, hx, ex⟩ := vk_Sof (s := s) (N := 1) (tm := fun _ => Term.string "NightfallVillageModel" 96) (len := [3]) (byt := [[118, 119, 108]]) (A := fun q : Nat => s.heap.size ≤ q)
    (fun i hi => by obtain rfl : i = 0 := by omega
                    decide) (fun i hi => hs _ (by decide +kernel)) (fun i hi => hs _ (by decide +kernel)) (fun i hi => hs _ (by decide +kernel))
    (fun i hi => by obtain rfl : i = 0 := by omega
                    exact hs _ (by decide +kernel))
    (fun i hi j hj => by
      obtain rfl : i = 0 := by omega
      have hj2 : j < 3 := hj
      rcases (show j = 0 ∨ j = 1 ∨ j = 2 by omega) with rfl | rfl | rfl <;> exact hs _ (by decide +kernel))
    (fun i j hi hj hij => absurd (show i = j by omega) hij) hA
  obtain ⟨yK, yV, hy, ey⟩ := vk_Sof (s := s) (N := 1) (tm := fun _ => Term.string "NightfallVillageModel" 104) (len := [8]) (byt := [[45, 98, 114, 100, 112, 115, 113, 107]]) (A := fun q : Nat => s.heap.size ≤ q)
    (fun i hi => by obtain rfl : i = 0 := by omega
                    decide) (fun i hi => hs _ (by decide +kernel)) (fun i hi => hs _ (by decide +kernel)) (fun i hi => hs _ (by decide +kernel))
    (fun i hi => by obtain rfl : i = 0 := by omega
                    exact hs _ (by decide +kernel))
    (fun i hi j hj => by
      obtain rfl : i = 0 := by omega
      have hj2 : j < 8 := hj
      rcases (show j = 0 ∨ j = 1 ∨ j = 2 ∨ j = 3 ∨ j = 4 ∨ j = 5 ∨ j = 6 ∨ j = 7 by omega) with rfl | rfl | rfl | rfl | rfl | rfl | rfl | rfl <;> exact hs _ (by decide +kernel))
    (fun i j hi hj hij => absurd (show i = j by omega) hij) hA
  have x0 := hx.1 0 (by decide)
  have y0 := hy.1 0 (by decide)
  have hne : xK 0 ≠ yK 0 := by
    intro e
    obtain ⟨cf, k, i, f, cell, g1, g2, g3, g4, g5, -⟩ := x0.2.2.1
    obtain ⟨cf2, k2, i2, f2, cell2, h1, h2, h3, h4, h5, -⟩ := y0.2.2.1
    rw [← e] at h3
    cases g1.symm.trans h1
    cases g3.symm.trans h3
    have e2 : xV 0 = yV 0 := Value.ref.inj (Option.some.inj (g5.symm.trans h5))
    obtain ⟨d, d1, -, -, -, d5, -⟩ := x0.2.2.2
    obtain ⟨d2, t1, -, -, -, t5, -⟩ := y0.2.2.2
    rw [← e2] at t1
    cases d1.symm.trans t1
    have e3 := d5.symm.trans t5
    exact absurd e3 (by decide)
  refine ⟨tE, fun i => if i = 0 then xK 0 else yK 0, fun i => if i = 0 then xV 0 else yV 0, ⟨z1, z2⟩, hr, ⟨hl, hT⟩, ⟨hc, fun i hi => ?_, fun i j hi hj e => ?_⟩, ⟨fun k hk => ?_, fun k hk => ?_⟩, va_Nc.of (hs _ (by decide +kernel)), va_AO.of (tb _ (List.mem_of_getElem? (i := 1585) (by decide +kernel)))⟩
  · have hi2 : i < 2 := hi
    rcases (show i = 0 ∨ i = 1 by omega) with rfl | rfl
    · exact x0
    · exact y0
  · have hi2 : i < 2 := hi
    have hj2 : j < 2 := hj
    rcases (show i = 0 ∨ i = 1 by omega) with rfl | rfl <;> rcases (show j = 0 ∨ j = 1 by omega) with rfl | rfl
    · rfl
    · exact absurd e hne
    · exact absurd e.symm hne
    · rfl
  · obtain rfl := of_decide_eq_true (List.all_eq_true.mp am_w1 _ hk) rfl rfl
    exact vk_R.of (tb _ hk) (ex 0 (by decide))
  · obtain rfl := of_decide_eq_true (List.all_eq_true.mp am_w2 _ hk) rfl rfl
    exact vk_R.of (tb _ hk) (ey 0 (by decide))
